/-! step rows: methods 164 to 194 -/
theorem d164_0 : decode cX12_init 0 = .ok (.aload_n 0, 1) := by decide +kernel
theorem s164_0 {d : Nat} {st : List Value} {σ : am_I} {ρ : am_R} {g : am_J} {τ : am_T} {Q : am_Q} {x1 : Value} {v : Nat} : AW d 164 0 [.ref v, x1] (st) σ ρ g τ Q = AW d 164 1 [.ref v, x1] (.ref v :: st) σ ρ g τ Q := aw_lc m164 d164_0 rfl rfl rfl
theorem s164_0n {d : Nat} {st : List Value} {σ : am_I} {ρ : am_R} {g : am_J} {τ : am_T} {Q : am_Q} {x1 : Value} : AW d 164 0 [.null, x1] (st) σ ρ g τ Q = AW d 164 1 [.null, x1] (.null :: st) σ ρ g τ Q := aw_lc m164 d164_0 rfl rfl rfl
theorem d164_1 : decode cX12_init 1 = .ok (.invokespecial 1, 3) := by decide +kernel
theorem s164_1 {d : Nat} {st : List Value} {σ : am_I} {ρ : am_R} {g : am_J} {τ : am_T} {Q : am_Q} {x0 x1 : Value} {a : Nat} (hs : st.length ≤ 4) : AW d 164 1 [x0, x1] (.ref a :: st) σ ρ g τ Q = AW d 164 4 [x0, x1] (st) σ ρ g τ Q := aw_oin m164 d164_1 rfl rfl hs
theorem d164_4 : decode cX12_init 4 = .ok (.aload_n 0, 1) := by decide +kernel
theorem s164_4 {d : Nat} {st : List Value} {σ : am_I} {ρ : am_R} {g : am_J} {τ : am_T} {Q : am_Q} {x1 : Value} {v : Nat} : AW d 164 4 [.ref v, x1] (st) σ ρ g τ Q = AW d 164 5 [.ref v, x1] (.ref v :: st) σ ρ g τ Q := aw_lc m164 d164_4 rfl rfl rfl
theorem s164_4n {d : Nat} {st : List Value} {σ : am_I} {ρ : am_R} {g : am_J} {τ : am_T} {Q : am_Q} {x1 : Value} : AW d 164 4 [.null, x1] (st) σ ρ g τ Q = AW d 164 5 [.null, x1] (.null :: st) σ ρ g τ Q := aw_lc m164 d164_4 rfl rfl rfl
theorem d164_5 : decode cX12_init 5 = .ok (.bipush 9, 2) := by decide +kernel
theorem s164_5 {d : Nat} {st : List Value} {σ : am_I} {ρ : am_R} {g : am_J} {τ : am_T} {Q : am_Q} {x0 x1 : Value} : AW d 164 5 [x0, x1] (st) σ ρ g τ Q = AW d 164 7 [x0, x1] (.int 9 :: st) σ ρ g τ Q := aw_lc m164 d164_5 rfl rfl rfl
theorem d164_7 : decode cX12_init 7 = .ok (.newarray .int, 2) := by decide +kernel
theorem s164_7 {d : Nat} {st : List Value} {σ : am_I} {ρ : am_R} {g : am_J} {τ : am_T} {Q : am_Q} {x0 x1 : Value} {j : Int32} (hj : ¬ j < 0 ∧ j.toNatClampNeg ≤ 10000) : AW d 164 7 [x0, x1] (.int j :: st) σ ρ g τ Q = AW d 164 9 [x0, x1] (.ref τ.2.2.1 :: st) (am_new 15 j.toNatClampNeg σ ρ g τ).1 (am_new 15 j.toNatClampNeg σ ρ g τ).2.1 (am_new 15 j.toNatClampNeg σ ρ g τ).2.2.1 (am_new 15 j.toNatClampNeg σ ρ g τ).2.2.2 Q := aw_nwa m164 d164_7 rfl rfl (by decide) hj
theorem d164_9 : decode cX12_init 9 = .ok (.putfield 9, 3) := by decide +kernel
theorem s164_9 {d : Nat} {st : List Value} {σ : am_I} {ρ : am_R} {g : am_J} {τ : am_T} {Q : am_Q} {x0 x1 : Value} {a b : Nat} (ht : τ.1 a = 12) : AW d 164 9 [x0, x1] (.ref b :: .ref a :: st) σ ρ g τ Q = AW d 164 12 [x0, x1] (st) σ (am_u ρ a 0 (some b)) g τ Q := aw_pr m164 d164_9 rfl rfl (Or.inr ⟨rfl, rfl⟩) rfl ht
theorem s164_9n {d : Nat} {st : List Value} {σ : am_I} {ρ : am_R} {g : am_J} {τ : am_T} {Q : am_Q} {x0 x1 : Value} {a : Nat} (ht : τ.1 a = 12) : AW d 164 9 [x0, x1] (.null :: .ref a :: st) σ ρ g τ Q = AW d 164 12 [x0, x1] (st) σ (am_u ρ a 0 none) g τ Q := aw_pn m164 d164_9 rfl rfl (Or.inr ⟨rfl, rfl⟩) rfl ht
theorem d164_12 : decode cX12_init 12 = .ok (.aload_n 0, 1) := by decide +kernel
theorem s164_12 {d : Nat} {st : List Value} {σ : am_I} {ρ : am_R} {g : am_J} {τ : am_T} {Q : am_Q} {x1 : Value} {v : Nat} : AW d 164 12 [.ref v, x1] (st) σ ρ g τ Q = AW d 164 13 [.ref v, x1] (.ref v :: st) σ ρ g τ Q := aw_lc m164 d164_12 rfl rfl rfl
theorem s164_12n {d : Nat} {st : List Value} {σ : am_I} {ρ : am_R} {g : am_J} {τ : am_T} {Q : am_Q} {x1 : Value} : AW d 164 12 [.null, x1] (st) σ ρ g τ Q = AW d 164 13 [.null, x1] (.null :: st) σ ρ g τ Q := aw_lc m164 d164_12 rfl rfl rfl
theorem d164_13 : decode cX12_init 13 = .ok (.iconst 3, 1) := by decide +kernel
theorem s164_13 {d : Nat} {st : List Value} {σ : am_I} {ρ : am_R} {g : am_J} {τ : am_T} {Q : am_Q} {x0 x1 : Value} : AW d 164 13 [x0, x1] (st) σ ρ g τ Q = AW d 164 14 [x0, x1] (.int 3 :: st) σ ρ g τ Q := aw_lc m164 d164_13 rfl rfl rfl
theorem d164_14 : decode cX12_init 14 = .ok (.newarray .int, 2) := by decide +kernel
theorem s164_14 {d : Nat} {st : List Value} {σ : am_I} {ρ : am_R} {g : am_J} {τ : am_T} {Q : am_Q} {x0 x1 : Value} {j : Int32} (hj : ¬ j < 0 ∧ j.toNatClampNeg ≤ 10000) : AW d 164 14 [x0, x1] (.int j :: st) σ ρ g τ Q = AW d 164 16 [x0, x1] (.ref τ.2.2.1 :: st) (am_new 15 j.toNatClampNeg σ ρ g τ).1 (am_new 15 j.toNatClampNeg σ ρ g τ).2.1 (am_new 15 j.toNatClampNeg σ ρ g τ).2.2.1 (am_new 15 j.toNatClampNeg σ ρ g τ).2.2.2 Q := aw_nwa m164 d164_14 rfl rfl (by decide) hj
theorem d164_16 : decode cX12_init 16 = .ok (.putfield 13, 3) := by decide +kernel
theorem s164_16 {d : Nat} {st : List Value} {σ : am_I} {ρ : am_R} {g : am_J} {τ : am_T} {Q : am_Q} {x0 x1 : Value} {a b : Nat} (ht : τ.1 a = 12) : AW d 164 16 [x0, x1] (.ref b :: .ref a :: st) σ ρ g τ Q = AW d 164 19 [x0, x1] (st) σ (am_u ρ a 1 (some b)) g τ Q := aw_pr m164 d164_16 rfl rfl (Or.inr ⟨rfl, rfl⟩) rfl ht
theorem s164_16n {d : Nat} {st : List Value} {σ : am_I} {ρ : am_R} {g : am_J} {τ : am_T} {Q : am_Q} {x0 x1 : Value} {a : Nat} (ht : τ.1 a = 12) : AW d 164 16 [x0, x1] (.null :: .ref a :: st) σ ρ g τ Q = AW d 164 19 [x0, x1] (st) σ (am_u ρ a 1 none) g τ Q := aw_pn m164 d164_16 rfl rfl (Or.inr ⟨rfl, rfl⟩) rfl ht
theorem d164_19 : decode cX12_init 19 = .ok (.aload_n 0, 1) := by decide +kernel
theorem s164_19 {d : Nat} {st : List Value} {σ : am_I} {ρ : am_R} {g : am_J} {τ : am_T} {Q : am_Q} {x1 : Value} {v : Nat} : AW d 164 19 [.ref v, x1] (st) σ ρ g τ Q = AW d 164 20 [.ref v, x1] (.ref v :: st) σ ρ g τ Q := aw_lc m164 d164_19 rfl rfl rfl
theorem s164_19n {d : Nat} {st : List Value} {σ : am_I} {ρ : am_R} {g : am_J} {τ : am_T} {Q : am_Q} {x1 : Value} : AW d 164 19 [.null, x1] (st) σ ρ g τ Q = AW d 164 20 [.null, x1] (.null :: st) σ ρ g τ Q := aw_lc m164 d164_19 rfl rfl rfl
theorem d164_20 : decode cX12_init 20 = .ok (.bipush 12, 2) := by decide +kernel
theorem s164_20 {d : Nat} {st : List Value} {σ : am_I} {ρ : am_R} {g : am_J} {τ : am_T} {Q : am_Q} {x0 x1 : Value} : AW d 164 20 [x0, x1] (st) σ ρ g τ Q = AW d 164 22 [x0, x1] (.int 12 :: st) σ ρ g τ Q := aw_lc m164 d164_20 rfl rfl rfl
theorem d164_22 : decode cX12_init 22 = .ok (.newarray .int, 2) := by decide +kernel
theorem s164_22 {d : Nat} {st : List Value} {σ : am_I} {ρ : am_R} {g : am_J} {τ : am_T} {Q : am_Q} {x0 x1 : Value} {j : Int32} (hj : ¬ j < 0 ∧ j.toNatClampNeg ≤ 10000) : AW d 164 22 [x0, x1] (.int j :: st) σ ρ g τ Q = AW d 164 24 [x0, x1] (.ref τ.2.2.1 :: st) (am_new 15 j.toNatClampNeg σ ρ g τ).1 (am_new 15 j.toNatClampNeg σ ρ g τ).2.1 (am_new 15 j.toNatClampNeg σ ρ g τ).2.2.1 (am_new 15 j.toNatClampNeg σ ρ g τ).2.2.2 Q := aw_nwa m164 d164_22 rfl rfl (by decide) hj
theorem d164_24 : decode cX12_init 24 = .ok (.putfield 16, 3) := by decide +kernel
theorem s164_24 {d : Nat} {st : List Value} {σ : am_I} {ρ : am_R} {g : am_J} {τ : am_T} {Q : am_Q} {x0 x1 : Value} {a b : Nat} (ht : τ.1 a = 12) : AW d 164 24 [x0, x1] (.ref b :: .ref a :: st) σ ρ g τ Q = AW d 164 27 [x0, x1] (st) σ (am_u ρ a 2 (some b)) g τ Q := aw_pr m164 d164_24 rfl rfl (Or.inr ⟨rfl, rfl⟩) rfl ht
theorem s164_24n {d : Nat} {st : List Value} {σ : am_I} {ρ : am_R} {g : am_J} {τ : am_T} {Q : am_Q} {x0 x1 : Value} {a : Nat} (ht : τ.1 a = 12) : AW d 164 24 [x0, x1] (.null :: .ref a :: st) σ ρ g τ Q = AW d 164 27 [x0, x1] (st) σ (am_u ρ a 2 none) g τ Q := aw_pn m164 d164_24 rfl rfl (Or.inr ⟨rfl, rfl⟩) rfl ht
theorem d164_27 : decode cX12_init 27 = .ok (.aload_n 0, 1) := by decide +kernel
theorem s164_27 {d : Nat} {st : List Value} {σ : am_I} {ρ : am_R} {g : am_J} {τ : am_T} {Q : am_Q} {x1 : Value} {v : Nat} : AW d 164 27 [.ref v, x1] (st) σ ρ g τ Q = AW d 164 28 [.ref v, x1] (.ref v :: st) σ ρ g τ Q := aw_lc m164 d164_27 rfl rfl rfl
theorem s164_27n {d : Nat} {st : List Value} {σ : am_I} {ρ : am_R} {g : am_J} {τ : am_T} {Q : am_Q} {x1 : Value} : AW d 164 27 [.null, x1] (st) σ ρ g τ Q = AW d 164 28 [.null, x1] (.null :: st) σ ρ g τ Q := aw_lc m164 d164_27 rfl rfl rfl
theorem d164_28 : decode cX12_init 28 = .ok (.iconst 5, 1) := by decide +kernel
theorem s164_28 {d : Nat} {st : List Value} {σ : am_I} {ρ : am_R} {g : am_J} {τ : am_T} {Q : am_Q} {x0 x1 : Value} : AW d 164 28 [x0, x1] (st) σ ρ g τ Q = AW d 164 29 [x0, x1] (.int 5 :: st) σ ρ g τ Q := aw_lc m164 d164_28 rfl rfl rfl
theorem d164_29 : decode cX12_init 29 = .ok (.newarray .int, 2) := by decide +kernel
theorem s164_29 {d : Nat} {st : List Value} {σ : am_I} {ρ : am_R} {g : am_J} {τ : am_T} {Q : am_Q} {x0 x1 : Value} {j : Int32} (hj : ¬ j < 0 ∧ j.toNatClampNeg ≤ 10000) : AW d 164 29 [x0, x1] (.int j :: st) σ ρ g τ Q = AW d 164 31 [x0, x1] (.ref τ.2.2.1 :: st) (am_new 15 j.toNatClampNeg σ ρ g τ).1 (am_new 15 j.toNatClampNeg σ ρ g τ).2.1 (am_new 15 j.toNatClampNeg σ ρ g τ).2.2.1 (am_new 15 j.toNatClampNeg σ ρ g τ).2.2.2 Q := aw_nwa m164 d164_29 rfl rfl (by decide) hj
theorem d164_31 : decode cX12_init 31 = .ok (.putfield 19, 3) := by decide +kernel
theorem s164_31 {d : Nat} {st : List Value} {σ : am_I} {ρ : am_R} {g : am_J} {τ : am_T} {Q : am_Q} {x0 x1 : Value} {a b : Nat} (ht : τ.1 a = 12) : AW d 164 31 [x0, x1] (.ref b :: .ref a :: st) σ ρ g τ Q = AW d 164 34 [x0, x1] (st) σ (am_u ρ a 3 (some b)) g τ Q := aw_pr m164 d164_31 rfl rfl (Or.inr ⟨rfl, rfl⟩) rfl ht
theorem s164_31n {d : Nat} {st : List Value} {σ : am_I} {ρ : am_R} {g : am_J} {τ : am_T} {Q : am_Q} {x0 x1 : Value} {a : Nat} (ht : τ.1 a = 12) : AW d 164 31 [x0, x1] (.null :: .ref a :: st) σ ρ g τ Q = AW d 164 34 [x0, x1] (st) σ (am_u ρ a 3 none) g τ Q := aw_pn m164 d164_31 rfl rfl (Or.inr ⟨rfl, rfl⟩) rfl ht
theorem d164_34 : decode cX12_init 34 = .ok (.aload_n 0, 1) := by decide +kernel
theorem s164_34 {d : Nat} {st : List Value} {σ : am_I} {ρ : am_R} {g : am_J} {τ : am_T} {Q : am_Q} {x1 : Value} {v : Nat} : AW d 164 34 [.ref v, x1] (st) σ ρ g τ Q = AW d 164 35 [.ref v, x1] (.ref v :: st) σ ρ g τ Q := aw_lc m164 d164_34 rfl rfl rfl
theorem s164_34n {d : Nat} {st : List Value} {σ : am_I} {ρ : am_R} {g : am_J} {τ : am_T} {Q : am_Q} {x1 : Value} : AW d 164 34 [.null, x1] (st) σ ρ g τ Q = AW d 164 35 [.null, x1] (.null :: st) σ ρ g τ Q := aw_lc m164 d164_34 rfl rfl rfl
theorem d164_35 : decode cX12_init 35 = .ok (.bipush 24, 2) := by decide +kernel
theorem s164_35 {d : Nat} {st : List Value} {σ : am_I} {ρ : am_R} {g : am_J} {τ : am_T} {Q : am_Q} {x0 x1 : Value} : AW d 164 35 [x0, x1] (st) σ ρ g τ Q = AW d 164 37 [x0, x1] (.int 24 :: st) σ ρ g τ Q := aw_lc m164 d164_35 rfl rfl rfl
theorem d164_37 : decode cX12_init 37 = .ok (.newarray .int, 2) := by decide +kernel
theorem s164_37 {d : Nat} {st : List Value} {σ : am_I} {ρ : am_R} {g : am_J} {τ : am_T} {Q : am_Q} {x0 x1 : Value} {j : Int32} (hj : ¬ j < 0 ∧ j.toNatClampNeg ≤ 10000) : AW d 164 37 [x0, x1] (.int j :: st) σ ρ g τ Q = AW d 164 39 [x0, x1] (.ref τ.2.2.1 :: st) (am_new 15 j.toNatClampNeg σ ρ g τ).1 (am_new 15 j.toNatClampNeg σ ρ g τ).2.1 (am_new 15 j.toNatClampNeg σ ρ g τ).2.2.1 (am_new 15 j.toNatClampNeg σ ρ g τ).2.2.2 Q := aw_nwa m164 d164_37 rfl rfl (by decide) hj
theorem d164_39 : decode cX12_init 39 = .ok (.putfield 22, 3) := by decide +kernel
theorem s164_39 {d : Nat} {st : List Value} {σ : am_I} {ρ : am_R} {g : am_J} {τ : am_T} {Q : am_Q} {x0 x1 : Value} {a b : Nat} (ht : τ.1 a = 12) : AW d 164 39 [x0, x1] (.ref b :: .ref a :: st) σ ρ g τ Q = AW d 164 42 [x0, x1] (st) σ (am_u ρ a 4 (some b)) g τ Q := aw_pr m164 d164_39 rfl rfl (Or.inr ⟨rfl, rfl⟩) rfl ht
theorem s164_39n {d : Nat} {st : List Value} {σ : am_I} {ρ : am_R} {g : am_J} {τ : am_T} {Q : am_Q} {x0 x1 : Value} {a : Nat} (ht : τ.1 a = 12) : AW d 164 39 [x0, x1] (.null :: .ref a :: st) σ ρ g τ Q = AW d 164 42 [x0, x1] (st) σ (am_u ρ a 4 none) g τ Q := aw_pn m164 d164_39 rfl rfl (Or.inr ⟨rfl, rfl⟩) rfl ht
theorem d164_42 : decode cX12_init 42 = .ok (.aload_n 0, 1) := by decide +kernel
theorem s164_42 {d : Nat} {st : List Value} {σ : am_I} {ρ : am_R} {g : am_J} {τ : am_T} {Q : am_Q} {x1 : Value} {v : Nat} : AW d 164 42 [.ref v, x1] (st) σ ρ g τ Q = AW d 164 43 [.ref v, x1] (.ref v :: st) σ ρ g τ Q := aw_lc m164 d164_42 rfl rfl rfl
theorem s164_42n {d : Nat} {st : List Value} {σ : am_I} {ρ : am_R} {g : am_J} {τ : am_T} {Q : am_Q} {x1 : Value} : AW d 164 42 [.null, x1] (st) σ ρ g τ Q = AW d 164 43 [.null, x1] (.null :: st) σ ρ g τ Q := aw_lc m164 d164_42 rfl rfl rfl
theorem d164_43 : decode cX12_init 43 = .ok (.bipush 8, 2) := by decide +kernel
theorem s164_43 {d : Nat} {st : List Value} {σ : am_I} {ρ : am_R} {g : am_J} {τ : am_T} {Q : am_Q} {x0 x1 : Value} : AW d 164 43 [x0, x1] (st) σ ρ g τ Q = AW d 164 45 [x0, x1] (.int 8 :: st) σ ρ g τ Q := aw_lc m164 d164_43 rfl rfl rfl
theorem d164_45 : decode cX12_init 45 = .ok (.newarray .int, 2) := by decide +kernel
theorem s164_45 {d : Nat} {st : List Value} {σ : am_I} {ρ : am_R} {g : am_J} {τ : am_T} {Q : am_Q} {x0 x1 : Value} {j : Int32} (hj : ¬ j < 0 ∧ j.toNatClampNeg ≤ 10000) : AW d 164 45 [x0, x1] (.int j :: st) σ ρ g τ Q = AW d 164 47 [x0, x1] (.ref τ.2.2.1 :: st) (am_new 15 j.toNatClampNeg σ ρ g τ).1 (am_new 15 j.toNatClampNeg σ ρ g τ).2.1 (am_new 15 j.toNatClampNeg σ ρ g τ).2.2.1 (am_new 15 j.toNatClampNeg σ ρ g τ).2.2.2 Q := aw_nwa m164 d164_45 rfl rfl (by decide) hj
theorem d164_47 : decode cX12_init 47 = .ok (.putfield 25, 3) := by decide +kernel
theorem s164_47 {d : Nat} {st : List Value} {σ : am_I} {ρ : am_R} {g : am_J} {τ : am_T} {Q : am_Q} {x0 x1 : Value} {a b : Nat} (ht : τ.1 a = 12) : AW d 164 47 [x0, x1] (.ref b :: .ref a :: st) σ ρ g τ Q = AW d 164 50 [x0, x1] (st) σ (am_u ρ a 5 (some b)) g τ Q := aw_pr m164 d164_47 rfl rfl (Or.inr ⟨rfl, rfl⟩) rfl ht
theorem s164_47n {d : Nat} {st : List Value} {σ : am_I} {ρ : am_R} {g : am_J} {τ : am_T} {Q : am_Q} {x0 x1 : Value} {a : Nat} (ht : τ.1 a = 12) : AW d 164 47 [x0, x1] (.null :: .ref a :: st) σ ρ g τ Q = AW d 164 50 [x0, x1] (st) σ (am_u ρ a 5 none) g τ Q := aw_pn m164 d164_47 rfl rfl (Or.inr ⟨rfl, rfl⟩) rfl ht
theorem d164_50 : decode cX12_init 50 = .ok (.aload_n 0, 1) := by decide +kernel
theorem s164_50 {d : Nat} {st : List Value} {σ : am_I} {ρ : am_R} {g : am_J} {τ : am_T} {Q : am_Q} {x1 : Value} {v : Nat} : AW d 164 50 [.ref v, x1] (st) σ ρ g τ Q = AW d 164 51 [.ref v, x1] (.ref v :: st) σ ρ g τ Q := aw_lc m164 d164_50 rfl rfl rfl
theorem s164_50n {d : Nat} {st : List Value} {σ : am_I} {ρ : am_R} {g : am_J} {τ : am_T} {Q : am_Q} {x1 : Value} : AW d 164 50 [.null, x1] (st) σ ρ g τ Q = AW d 164 51 [.null, x1] (.null :: st) σ ρ g τ Q := aw_lc m164 d164_50 rfl rfl rfl
theorem d164_51 : decode cX12_init 51 = .ok (.bipush 8, 2) := by decide +kernel
theorem s164_51 {d : Nat} {st : List Value} {σ : am_I} {ρ : am_R} {g : am_J} {τ : am_T} {Q : am_Q} {x0 x1 : Value} : AW d 164 51 [x0, x1] (st) σ ρ g τ Q = AW d 164 53 [x0, x1] (.int 8 :: st) σ ρ g τ Q := aw_lc m164 d164_51 rfl rfl rfl
theorem d164_53 : decode cX12_init 53 = .ok (.newarray .int, 2) := by decide +kernel
theorem s164_53 {d : Nat} {st : List Value} {σ : am_I} {ρ : am_R} {g : am_J} {τ : am_T} {Q : am_Q} {x0 x1 : Value} {j : Int32} (hj : ¬ j < 0 ∧ j.toNatClampNeg ≤ 10000) : AW d 164 53 [x0, x1] (.int j :: st) σ ρ g τ Q = AW d 164 55 [x0, x1] (.ref τ.2.2.1 :: st) (am_new 15 j.toNatClampNeg σ ρ g τ).1 (am_new 15 j.toNatClampNeg σ ρ g τ).2.1 (am_new 15 j.toNatClampNeg σ ρ g τ).2.2.1 (am_new 15 j.toNatClampNeg σ ρ g τ).2.2.2 Q := aw_nwa m164 d164_53 rfl rfl (by decide) hj
theorem d164_55 : decode cX12_init 55 = .ok (.putfield 28, 3) := by decide +kernel
theorem s164_55 {d : Nat} {st : List Value} {σ : am_I} {ρ : am_R} {g : am_J} {τ : am_T} {Q : am_Q} {x0 x1 : Value} {a b : Nat} (ht : τ.1 a = 12) : AW d 164 55 [x0, x1] (.ref b :: .ref a :: st) σ ρ g τ Q = AW d 164 58 [x0, x1] (st) σ (am_u ρ a 6 (some b)) g τ Q := aw_pr m164 d164_55 rfl rfl (Or.inr ⟨rfl, rfl⟩) rfl ht
theorem s164_55n {d : Nat} {st : List Value} {σ : am_I} {ρ : am_R} {g : am_J} {τ : am_T} {Q : am_Q} {x0 x1 : Value} {a : Nat} (ht : τ.1 a = 12) : AW d 164 55 [x0, x1] (.null :: .ref a :: st) σ ρ g τ Q = AW d 164 58 [x0, x1] (st) σ (am_u ρ a 6 none) g τ Q := aw_pn m164 d164_55 rfl rfl (Or.inr ⟨rfl, rfl⟩) rfl ht
theorem d164_58 : decode cX12_init 58 = .ok (.aload_n 0, 1) := by decide +kernel
theorem s164_58 {d : Nat} {st : List Value} {σ : am_I} {ρ : am_R} {g : am_J} {τ : am_T} {Q : am_Q} {x1 : Value} {v : Nat} : AW d 164 58 [.ref v, x1] (st) σ ρ g τ Q = AW d 164 59 [.ref v, x1] (.ref v :: st) σ ρ g τ Q := aw_lc m164 d164_58 rfl rfl rfl
theorem s164_58n {d : Nat} {st : List Value} {σ : am_I} {ρ : am_R} {g : am_J} {τ : am_T} {Q : am_Q} {x1 : Value} : AW d 164 58 [.null, x1] (st) σ ρ g τ Q = AW d 164 59 [.null, x1] (.null :: st) σ ρ g τ Q := aw_lc m164 d164_58 rfl rfl rfl
theorem d164_59 : decode cX12_init 59 = .ok (.bipush 8, 2) := by decide +kernel
theorem s164_59 {d : Nat} {st : List Value} {σ : am_I} {ρ : am_R} {g : am_J} {τ : am_T} {Q : am_Q} {x0 x1 : Value} : AW d 164 59 [x0, x1] (st) σ ρ g τ Q = AW d 164 61 [x0, x1] (.int 8 :: st) σ ρ g τ Q := aw_lc m164 d164_59 rfl rfl rfl
theorem d164_61 : decode cX12_init 61 = .ok (.newarray .int, 2) := by decide +kernel
theorem s164_61 {d : Nat} {st : List Value} {σ : am_I} {ρ : am_R} {g : am_J} {τ : am_T} {Q : am_Q} {x0 x1 : Value} {j : Int32} (hj : ¬ j < 0 ∧ j.toNatClampNeg ≤ 10000) : AW d 164 61 [x0, x1] (.int j :: st) σ ρ g τ Q = AW d 164 63 [x0, x1] (.ref τ.2.2.1 :: st) (am_new 15 j.toNatClampNeg σ ρ g τ).1 (am_new 15 j.toNatClampNeg σ ρ g τ).2.1 (am_new 15 j.toNatClampNeg σ ρ g τ).2.2.1 (am_new 15 j.toNatClampNeg σ ρ g τ).2.2.2 Q := aw_nwa m164 d164_61 rfl rfl (by decide) hj
theorem d164_63 : decode cX12_init 63 = .ok (.putfield 31, 3) := by decide +kernel
theorem s164_63 {d : Nat} {st : List Value} {σ : am_I} {ρ : am_R} {g : am_J} {τ : am_T} {Q : am_Q} {x0 x1 : Value} {a b : Nat} (ht : τ.1 a = 12) : AW d 164 63 [x0, x1] (.ref b :: .ref a :: st) σ ρ g τ Q = AW d 164 66 [x0, x1] (st) σ (am_u ρ a 7 (some b)) g τ Q := aw_pr m164 d164_63 rfl rfl (Or.inr ⟨rfl, rfl⟩) rfl ht
theorem s164_63n {d : Nat} {st : List Value} {σ : am_I} {ρ : am_R} {g : am_J} {τ : am_T} {Q : am_Q} {x0 x1 : Value} {a : Nat} (ht : τ.1 a = 12) : AW d 164 63 [x0, x1] (.null :: .ref a :: st) σ ρ g τ Q = AW d 164 66 [x0, x1] (st) σ (am_u ρ a 7 none) g τ Q := aw_pn m164 d164_63 rfl rfl (Or.inr ⟨rfl, rfl⟩) rfl ht
theorem d164_66 : decode cX12_init 66 = .ok (.aload_n 0, 1) := by decide +kernel
theorem s164_66 {d : Nat} {st : List Value} {σ : am_I} {ρ : am_R} {g : am_J} {τ : am_T} {Q : am_Q} {x1 : Value} {v : Nat} : AW d 164 66 [.ref v, x1] (st) σ ρ g τ Q = AW d 164 67 [.ref v, x1] (.ref v :: st) σ ρ g τ Q := aw_lc m164 d164_66 rfl rfl rfl
theorem s164_66n {d : Nat} {st : List Value} {σ : am_I} {ρ : am_R} {g : am_J} {τ : am_T} {Q : am_Q} {x1 : Value} : AW d 164 66 [.null, x1] (st) σ ρ g τ Q = AW d 164 67 [.null, x1] (.null :: st) σ ρ g τ Q := aw_lc m164 d164_66 rfl rfl rfl
theorem d164_67 : decode cX12_init 67 = .ok (.bipush 8, 2) := by decide +kernel
theorem s164_67 {d : Nat} {st : List Value} {σ : am_I} {ρ : am_R} {g : am_J} {τ : am_T} {Q : am_Q} {x0 x1 : Value} : AW d 164 67 [x0, x1] (st) σ ρ g τ Q = AW d 164 69 [x0, x1] (.int 8 :: st) σ ρ g τ Q := aw_lc m164 d164_67 rfl rfl rfl
theorem d164_69 : decode cX12_init 69 = .ok (.newarray .int, 2) := by decide +kernel
theorem s164_69 {d : Nat} {st : List Value} {σ : am_I} {ρ : am_R} {g : am_J} {τ : am_T} {Q : am_Q} {x0 x1 : Value} {j : Int32} (hj : ¬ j < 0 ∧ j.toNatClampNeg ≤ 10000) : AW d 164 69 [x0, x1] (.int j :: st) σ ρ g τ Q = AW d 164 71 [x0, x1] (.ref τ.2.2.1 :: st) (am_new 15 j.toNatClampNeg σ ρ g τ).1 (am_new 15 j.toNatClampNeg σ ρ g τ).2.1 (am_new 15 j.toNatClampNeg σ ρ g τ).2.2.1 (am_new 15 j.toNatClampNeg σ ρ g τ).2.2.2 Q := aw_nwa m164 d164_69 rfl rfl (by decide) hj
theorem d164_71 : decode cX12_init 71 = .ok (.putfield 34, 3) := by decide +kernel
theorem s164_71 {d : Nat} {st : List Value} {σ : am_I} {ρ : am_R} {g : am_J} {τ : am_T} {Q : am_Q} {x0 x1 : Value} {a b : Nat} (ht : τ.1 a = 12) : AW d 164 71 [x0, x1] (.ref b :: .ref a :: st) σ ρ g τ Q = AW d 164 74 [x0, x1] (st) σ (am_u ρ a 8 (some b)) g τ Q := aw_pr m164 d164_71 rfl rfl (Or.inr ⟨rfl, rfl⟩) rfl ht
theorem s164_71n {d : Nat} {st : List Value} {σ : am_I} {ρ : am_R} {g : am_J} {τ : am_T} {Q : am_Q} {x0 x1 : Value} {a : Nat} (ht : τ.1 a = 12) : AW d 164 71 [x0, x1] (.null :: .ref a :: st) σ ρ g τ Q = AW d 164 74 [x0, x1] (st) σ (am_u ρ a 8 none) g τ Q := aw_pn m164 d164_71 rfl rfl (Or.inr ⟨rfl, rfl⟩) rfl ht
theorem d164_74 : decode cX12_init 74 = .ok (.aload_n 0, 1) := by decide +kernel
theorem s164_74 {d : Nat} {st : List Value} {σ : am_I} {ρ : am_R} {g : am_J} {τ : am_T} {Q : am_Q} {x1 : Value} {v : Nat} : AW d 164 74 [.ref v, x1] (st) σ ρ g τ Q = AW d 164 75 [.ref v, x1] (.ref v :: st) σ ρ g τ Q := aw_lc m164 d164_74 rfl rfl rfl
theorem s164_74n {d : Nat} {st : List Value} {σ : am_I} {ρ : am_R} {g : am_J} {τ : am_T} {Q : am_Q} {x1 : Value} : AW d 164 74 [.null, x1] (st) σ ρ g τ Q = AW d 164 75 [.null, x1] (.null :: st) σ ρ g τ Q := aw_lc m164 d164_74 rfl rfl rfl
theorem d164_75 : decode cX12_init 75 = .ok (.bipush 16, 2) := by decide +kernel
theorem s164_75 {d : Nat} {st : List Value} {σ : am_I} {ρ : am_R} {g : am_J} {τ : am_T} {Q : am_Q} {x0 x1 : Value} : AW d 164 75 [x0, x1] (st) σ ρ g τ Q = AW d 164 77 [x0, x1] (.int 16 :: st) σ ρ g τ Q := aw_lc m164 d164_75 rfl rfl rfl
theorem d164_77 : decode cX12_init 77 = .ok (.newarray .int, 2) := by decide +kernel
theorem s164_77 {d : Nat} {st : List Value} {σ : am_I} {ρ : am_R} {g : am_J} {τ : am_T} {Q : am_Q} {x0 x1 : Value} {j : Int32} (hj : ¬ j < 0 ∧ j.toNatClampNeg ≤ 10000) : AW d 164 77 [x0, x1] (.int j :: st) σ ρ g τ Q = AW d 164 79 [x0, x1] (.ref τ.2.2.1 :: st) (am_new 15 j.toNatClampNeg σ ρ g τ).1 (am_new 15 j.toNatClampNeg σ ρ g τ).2.1 (am_new 15 j.toNatClampNeg σ ρ g τ).2.2.1 (am_new 15 j.toNatClampNeg σ ρ g τ).2.2.2 Q := aw_nwa m164 d164_77 rfl rfl (by decide) hj
theorem d164_79 : decode cX12_init 79 = .ok (.putfield 37, 3) := by decide +kernel
theorem s164_79 {d : Nat} {st : List Value} {σ : am_I} {ρ : am_R} {g : am_J} {τ : am_T} {Q : am_Q} {x0 x1 : Value} {a b : Nat} (ht : τ.1 a = 12) : AW d 164 79 [x0, x1] (.ref b :: .ref a :: st) σ ρ g τ Q = AW d 164 82 [x0, x1] (st) σ (am_u ρ a 9 (some b)) g τ Q := aw_pr m164 d164_79 rfl rfl (Or.inr ⟨rfl, rfl⟩) rfl ht
theorem s164_79n {d : Nat} {st : List Value} {σ : am_I} {ρ : am_R} {g : am_J} {τ : am_T} {Q : am_Q} {x0 x1 : Value} {a : Nat} (ht : τ.1 a = 12) : AW d 164 79 [x0, x1] (.null :: .ref a :: st) σ ρ g τ Q = AW d 164 82 [x0, x1] (st) σ (am_u ρ a 9 none) g τ Q := aw_pn m164 d164_79 rfl rfl (Or.inr ⟨rfl, rfl⟩) rfl ht
theorem d164_82 : decode cX12_init 82 = .ok (.aload_n 0, 1) := by decide +kernel
theorem s164_82 {d : Nat} {st : List Value} {σ : am_I} {ρ : am_R} {g : am_J} {τ : am_T} {Q : am_Q} {x1 : Value} {v : Nat} : AW d 164 82 [.ref v, x1] (st) σ ρ g τ Q = AW d 164 83 [.ref v, x1] (.ref v :: st) σ ρ g τ Q := aw_lc m164 d164_82 rfl rfl rfl
theorem s164_82n {d : Nat} {st : List Value} {σ : am_I} {ρ : am_R} {g : am_J} {τ : am_T} {Q : am_Q} {x1 : Value} : AW d 164 82 [.null, x1] (st) σ ρ g τ Q = AW d 164 83 [.null, x1] (.null :: st) σ ρ g τ Q := aw_lc m164 d164_82 rfl rfl rfl
theorem d164_83 : decode cX12_init 83 = .ok (.bipush 16, 2) := by decide +kernel
theorem s164_83 {d : Nat} {st : List Value} {σ : am_I} {ρ : am_R} {g : am_J} {τ : am_T} {Q : am_Q} {x0 x1 : Value} : AW d 164 83 [x0, x1] (st) σ ρ g τ Q = AW d 164 85 [x0, x1] (.int 16 :: st) σ ρ g τ Q := aw_lc m164 d164_83 rfl rfl rfl
theorem d164_85 : decode cX12_init 85 = .ok (.newarray .int, 2) := by decide +kernel
theorem s164_85 {d : Nat} {st : List Value} {σ : am_I} {ρ : am_R} {g : am_J} {τ : am_T} {Q : am_Q} {x0 x1 : Value} {j : Int32} (hj : ¬ j < 0 ∧ j.toNatClampNeg ≤ 10000) : AW d 164 85 [x0, x1] (.int j :: st) σ ρ g τ Q = AW d 164 87 [x0, x1] (.ref τ.2.2.1 :: st) (am_new 15 j.toNatClampNeg σ ρ g τ).1 (am_new 15 j.toNatClampNeg σ ρ g τ).2.1 (am_new 15 j.toNatClampNeg σ ρ g τ).2.2.1 (am_new 15 j.toNatClampNeg σ ρ g τ).2.2.2 Q := aw_nwa m164 d164_85 rfl rfl (by decide) hj
theorem d164_87 : decode cX12_init 87 = .ok (.putfield 40, 3) := by decide +kernel
theorem s164_87 {d : Nat} {st : List Value} {σ : am_I} {ρ : am_R} {g : am_J} {τ : am_T} {Q : am_Q} {x0 x1 : Value} {a b : Nat} (ht : τ.1 a = 12) : AW d 164 87 [x0, x1] (.ref b :: .ref a :: st) σ ρ g τ Q = AW d 164 90 [x0, x1] (st) σ (am_u ρ a 10 (some b)) g τ Q := aw_pr m164 d164_87 rfl rfl (Or.inr ⟨rfl, rfl⟩) rfl ht
theorem s164_87n {d : Nat} {st : List Value} {σ : am_I} {ρ : am_R} {g : am_J} {τ : am_T} {Q : am_Q} {x0 x1 : Value} {a : Nat} (ht : τ.1 a = 12) : AW d 164 87 [x0, x1] (.null :: .ref a :: st) σ ρ g τ Q = AW d 164 90 [x0, x1] (st) σ (am_u ρ a 10 none) g τ Q := aw_pn m164 d164_87 rfl rfl (Or.inr ⟨rfl, rfl⟩) rfl ht
theorem d164_90 : decode cX12_init 90 = .ok (.aload_n 0, 1) := by decide +kernel
theorem s164_90 {d : Nat} {st : List Value} {σ : am_I} {ρ : am_R} {g : am_J} {τ : am_T} {Q : am_Q} {x1 : Value} {v : Nat} : AW d 164 90 [.ref v, x1] (st) σ ρ g τ Q = AW d 164 91 [.ref v, x1] (.ref v :: st) σ ρ g τ Q := aw_lc m164 d164_90 rfl rfl rfl
theorem s164_90n {d : Nat} {st : List Value} {σ : am_I} {ρ : am_R} {g : am_J} {τ : am_T} {Q : am_Q} {x1 : Value} : AW d 164 90 [.null, x1] (st) σ ρ g τ Q = AW d 164 91 [.null, x1] (.null :: st) σ ρ g τ Q := aw_lc m164 d164_90 rfl rfl rfl
theorem d164_91 : decode cX12_init 91 = .ok (.bipush 16, 2) := by decide +kernel
theorem s164_91 {d : Nat} {st : List Value} {σ : am_I} {ρ : am_R} {g : am_J} {τ : am_T} {Q : am_Q} {x0 x1 : Value} : AW d 164 91 [x0, x1] (st) σ ρ g τ Q = AW d 164 93 [x0, x1] (.int 16 :: st) σ ρ g τ Q := aw_lc m164 d164_91 rfl rfl rfl
theorem d164_93 : decode cX12_init 93 = .ok (.newarray .int, 2) := by decide +kernel
theorem s164_93 {d : Nat} {st : List Value} {σ : am_I} {ρ : am_R} {g : am_J} {τ : am_T} {Q : am_Q} {x0 x1 : Value} {j : Int32} (hj : ¬ j < 0 ∧ j.toNatClampNeg ≤ 10000) : AW d 164 93 [x0, x1] (.int j :: st) σ ρ g τ Q = AW d 164 95 [x0, x1] (.ref τ.2.2.1 :: st) (am_new 15 j.toNatClampNeg σ ρ g τ).1 (am_new 15 j.toNatClampNeg σ ρ g τ).2.1 (am_new 15 j.toNatClampNeg σ ρ g τ).2.2.1 (am_new 15 j.toNatClampNeg σ ρ g τ).2.2.2 Q := aw_nwa m164 d164_93 rfl rfl (by decide) hj
theorem d164_95 : decode cX12_init 95 = .ok (.putfield 43, 3) := by decide +kernel
theorem s164_95 {d : Nat} {st : List Value} {σ : am_I} {ρ : am_R} {g : am_J} {τ : am_T} {Q : am_Q} {x0 x1 : Value} {a b : Nat} (ht : τ.1 a = 12) : AW d 164 95 [x0, x1] (.ref b :: .ref a :: st) σ ρ g τ Q = AW d 164 98 [x0, x1] (st) σ (am_u ρ a 11 (some b)) g τ Q := aw_pr m164 d164_95 rfl rfl (Or.inr ⟨rfl, rfl⟩) rfl ht
theorem s164_95n {d : Nat} {st : List Value} {σ : am_I} {ρ : am_R} {g : am_J} {τ : am_T} {Q : am_Q} {x0 x1 : Value} {a : Nat} (ht : τ.1 a = 12) : AW d 164 95 [x0, x1] (.null :: .ref a :: st) σ ρ g τ Q = AW d 164 98 [x0, x1] (st) σ (am_u ρ a 11 none) g τ Q := aw_pn m164 d164_95 rfl rfl (Or.inr ⟨rfl, rfl⟩) rfl ht
theorem d164_98 : decode cX12_init 98 = .ok (.aload_n 0, 1) := by decide +kernel
theorem s164_98 {d : Nat} {st : List Value} {σ : am_I} {ρ : am_R} {g : am_J} {τ : am_T} {Q : am_Q} {x1 : Value} {v : Nat} : AW d 164 98 [.ref v, x1] (st) σ ρ g τ Q = AW d 164 99 [.ref v, x1] (.ref v :: st) σ ρ g τ Q := aw_lc m164 d164_98 rfl rfl rfl
theorem s164_98n {d : Nat} {st : List Value} {σ : am_I} {ρ : am_R} {g : am_J} {τ : am_T} {Q : am_Q} {x1 : Value} : AW d 164 98 [.null, x1] (st) σ ρ g τ Q = AW d 164 99 [.null, x1] (.null :: st) σ ρ g τ Q := aw_lc m164 d164_98 rfl rfl rfl
theorem d164_99 : decode cX12_init 99 = .ok (.bipush 16, 2) := by decide +kernel
theorem s164_99 {d : Nat} {st : List Value} {σ : am_I} {ρ : am_R} {g : am_J} {τ : am_T} {Q : am_Q} {x0 x1 : Value} : AW d 164 99 [x0, x1] (st) σ ρ g τ Q = AW d 164 101 [x0, x1] (.int 16 :: st) σ ρ g τ Q := aw_lc m164 d164_99 rfl rfl rfl
theorem d164_101 : decode cX12_init 101 = .ok (.newarray .int, 2) := by decide +kernel
theorem s164_101 {d : Nat} {st : List Value} {σ : am_I} {ρ : am_R} {g : am_J} {τ : am_T} {Q : am_Q} {x0 x1 : Value} {j : Int32} (hj : ¬ j < 0 ∧ j.toNatClampNeg ≤ 10000) : AW d 164 101 [x0, x1] (.int j :: st) σ ρ g τ Q = AW d 164 103 [x0, x1] (.ref τ.2.2.1 :: st) (am_new 15 j.toNatClampNeg σ ρ g τ).1 (am_new 15 j.toNatClampNeg σ ρ g τ).2.1 (am_new 15 j.toNatClampNeg σ ρ g τ).2.2.1 (am_new 15 j.toNatClampNeg σ ρ g τ).2.2.2 Q := aw_nwa m164 d164_101 rfl rfl (by decide) hj
theorem d164_103 : decode cX12_init 103 = .ok (.putfield 46, 3) := by decide +kernel
theorem s164_103 {d : Nat} {st : List Value} {σ : am_I} {ρ : am_R} {g : am_J} {τ : am_T} {Q : am_Q} {x0 x1 : Value} {a b : Nat} (ht : τ.1 a = 12) : AW d 164 103 [x0, x1] (.ref b :: .ref a :: st) σ ρ g τ Q = AW d 164 106 [x0, x1] (st) σ (am_u ρ a 12 (some b)) g τ Q := aw_pr m164 d164_103 rfl rfl (Or.inr ⟨rfl, rfl⟩) rfl ht
theorem s164_103n {d : Nat} {st : List Value} {σ : am_I} {ρ : am_R} {g : am_J} {τ : am_T} {Q : am_Q} {x0 x1 : Value} {a : Nat} (ht : τ.1 a = 12) : AW d 164 103 [x0, x1] (.null :: .ref a :: st) σ ρ g τ Q = AW d 164 106 [x0, x1] (st) σ (am_u ρ a 12 none) g τ Q := aw_pn m164 d164_103 rfl rfl (Or.inr ⟨rfl, rfl⟩) rfl ht
theorem d164_106 : decode cX12_init 106 = .ok (.aload_n 0, 1) := by decide +kernel
theorem s164_106 {d : Nat} {st : List Value} {σ : am_I} {ρ : am_R} {g : am_J} {τ : am_T} {Q : am_Q} {x1 : Value} {v : Nat} : AW d 164 106 [.ref v, x1] (st) σ ρ g τ Q = AW d 164 107 [.ref v, x1] (.ref v :: st) σ ρ g τ Q := aw_lc m164 d164_106 rfl rfl rfl
theorem s164_106n {d : Nat} {st : List Value} {σ : am_I} {ρ : am_R} {g : am_J} {τ : am_T} {Q : am_Q} {x1 : Value} : AW d 164 106 [.null, x1] (st) σ ρ g τ Q = AW d 164 107 [.null, x1] (.null :: st) σ ρ g τ Q := aw_lc m164 d164_106 rfl rfl rfl
theorem d164_107 : decode cX12_init 107 = .ok (.bipush 16, 2) := by decide +kernel
theorem s164_107 {d : Nat} {st : List Value} {σ : am_I} {ρ : am_R} {g : am_J} {τ : am_T} {Q : am_Q} {x0 x1 : Value} : AW d 164 107 [x0, x1] (st) σ ρ g τ Q = AW d 164 109 [x0, x1] (.int 16 :: st) σ ρ g τ Q := aw_lc m164 d164_107 rfl rfl rfl
theorem d164_109 : decode cX12_init 109 = .ok (.newarray .int, 2) := by decide +kernel
theorem s164_109 {d : Nat} {st : List Value} {σ : am_I} {ρ : am_R} {g : am_J} {τ : am_T} {Q : am_Q} {x0 x1 : Value} {j : Int32} (hj : ¬ j < 0 ∧ j.toNatClampNeg ≤ 10000) : AW d 164 109 [x0, x1] (.int j :: st) σ ρ g τ Q = AW d 164 111 [x0, x1] (.ref τ.2.2.1 :: st) (am_new 15 j.toNatClampNeg σ ρ g τ).1 (am_new 15 j.toNatClampNeg σ ρ g τ).2.1 (am_new 15 j.toNatClampNeg σ ρ g τ).2.2.1 (am_new 15 j.toNatClampNeg σ ρ g τ).2.2.2 Q := aw_nwa m164 d164_109 rfl rfl (by decide) hj
theorem d164_111 : decode cX12_init 111 = .ok (.putfield 49, 3) := by decide +kernel
theorem s164_111 {d : Nat} {st : List Value} {σ : am_I} {ρ : am_R} {g : am_J} {τ : am_T} {Q : am_Q} {x0 x1 : Value} {a b : Nat} (ht : τ.1 a = 12) : AW d 164 111 [x0, x1] (.ref b :: .ref a :: st) σ ρ g τ Q = AW d 164 114 [x0, x1] (st) σ (am_u ρ a 13 (some b)) g τ Q := aw_pr m164 d164_111 rfl rfl (Or.inr ⟨rfl, rfl⟩) rfl ht
theorem s164_111n {d : Nat} {st : List Value} {σ : am_I} {ρ : am_R} {g : am_J} {τ : am_T} {Q : am_Q} {x0 x1 : Value} {a : Nat} (ht : τ.1 a = 12) : AW d 164 111 [x0, x1] (.null :: .ref a :: st) σ ρ g τ Q = AW d 164 114 [x0, x1] (st) σ (am_u ρ a 13 none) g τ Q := aw_pn m164 d164_111 rfl rfl (Or.inr ⟨rfl, rfl⟩) rfl ht
theorem d164_114 : decode cX12_init 114 = .ok (.aload_n 0, 1) := by decide +kernel
theorem s164_114 {d : Nat} {st : List Value} {σ : am_I} {ρ : am_R} {g : am_J} {τ : am_T} {Q : am_Q} {x1 : Value} {v : Nat} : AW d 164 114 [.ref v, x1] (st) σ ρ g τ Q = AW d 164 115 [.ref v, x1] (.ref v :: st) σ ρ g τ Q := aw_lc m164 d164_114 rfl rfl rfl
theorem s164_114n {d : Nat} {st : List Value} {σ : am_I} {ρ : am_R} {g : am_J} {τ : am_T} {Q : am_Q} {x1 : Value} : AW d 164 114 [.null, x1] (st) σ ρ g τ Q = AW d 164 115 [.null, x1] (.null :: st) σ ρ g τ Q := aw_lc m164 d164_114 rfl rfl rfl
theorem d164_115 : decode cX12_init 115 = .ok (.bipush 16, 2) := by decide +kernel
theorem s164_115 {d : Nat} {st : List Value} {σ : am_I} {ρ : am_R} {g : am_J} {τ : am_T} {Q : am_Q} {x0 x1 : Value} : AW d 164 115 [x0, x1] (st) σ ρ g τ Q = AW d 164 117 [x0, x1] (.int 16 :: st) σ ρ g τ Q := aw_lc m164 d164_115 rfl rfl rfl
theorem d164_117 : decode cX12_init 117 = .ok (.newarray .int, 2) := by decide +kernel
theorem s164_117 {d : Nat} {st : List Value} {σ : am_I} {ρ : am_R} {g : am_J} {τ : am_T} {Q : am_Q} {x0 x1 : Value} {j : Int32} (hj : ¬ j < 0 ∧ j.toNatClampNeg ≤ 10000) : AW d 164 117 [x0, x1] (.int j :: st) σ ρ g τ Q = AW d 164 119 [x0, x1] (.ref τ.2.2.1 :: st) (am_new 15 j.toNatClampNeg σ ρ g τ).1 (am_new 15 j.toNatClampNeg σ ρ g τ).2.1 (am_new 15 j.toNatClampNeg σ ρ g τ).2.2.1 (am_new 15 j.toNatClampNeg σ ρ g τ).2.2.2 Q := aw_nwa m164 d164_117 rfl rfl (by decide) hj
theorem d164_119 : decode cX12_init 119 = .ok (.putfield 52, 3) := by decide +kernel
theorem s164_119 {d : Nat} {st : List Value} {σ : am_I} {ρ : am_R} {g : am_J} {τ : am_T} {Q : am_Q} {x0 x1 : Value} {a b : Nat} (ht : τ.1 a = 12) : AW d 164 119 [x0, x1] (.ref b :: .ref a :: st) σ ρ g τ Q = AW d 164 122 [x0, x1] (st) σ (am_u ρ a 14 (some b)) g τ Q := aw_pr m164 d164_119 rfl rfl (Or.inr ⟨rfl, rfl⟩) rfl ht
theorem s164_119n {d : Nat} {st : List Value} {σ : am_I} {ρ : am_R} {g : am_J} {τ : am_T} {Q : am_Q} {x0 x1 : Value} {a : Nat} (ht : τ.1 a = 12) : AW d 164 119 [x0, x1] (.null :: .ref a :: st) σ ρ g τ Q = AW d 164 122 [x0, x1] (st) σ (am_u ρ a 14 none) g τ Q := aw_pn m164 d164_119 rfl rfl (Or.inr ⟨rfl, rfl⟩) rfl ht
theorem d164_122 : decode cX12_init 122 = .ok (.aload_n 0, 1) := by decide +kernel
theorem s164_122 {d : Nat} {st : List Value} {σ : am_I} {ρ : am_R} {g : am_J} {τ : am_T} {Q : am_Q} {x1 : Value} {v : Nat} : AW d 164 122 [.ref v, x1] (st) σ ρ g τ Q = AW d 164 123 [.ref v, x1] (.ref v :: st) σ ρ g τ Q := aw_lc m164 d164_122 rfl rfl rfl
theorem s164_122n {d : Nat} {st : List Value} {σ : am_I} {ρ : am_R} {g : am_J} {τ : am_T} {Q : am_Q} {x1 : Value} : AW d 164 122 [.null, x1] (st) σ ρ g τ Q = AW d 164 123 [.null, x1] (.null :: st) σ ρ g τ Q := aw_lc m164 d164_122 rfl rfl rfl
theorem d164_123 : decode cX12_init 123 = .ok (.bipush 16, 2) := by decide +kernel
theorem s164_123 {d : Nat} {st : List Value} {σ : am_I} {ρ : am_R} {g : am_J} {τ : am_T} {Q : am_Q} {x0 x1 : Value} : AW d 164 123 [x0, x1] (st) σ ρ g τ Q = AW d 164 125 [x0, x1] (.int 16 :: st) σ ρ g τ Q := aw_lc m164 d164_123 rfl rfl rfl
theorem d164_125 : decode cX12_init 125 = .ok (.newarray .int, 2) := by decide +kernel
theorem s164_125 {d : Nat} {st : List Value} {σ : am_I} {ρ : am_R} {g : am_J} {τ : am_T} {Q : am_Q} {x0 x1 : Value} {j : Int32} (hj : ¬ j < 0 ∧ j.toNatClampNeg ≤ 10000) : AW d 164 125 [x0, x1] (.int j :: st) σ ρ g τ Q = AW d 164 127 [x0, x1] (.ref τ.2.2.1 :: st) (am_new 15 j.toNatClampNeg σ ρ g τ).1 (am_new 15 j.toNatClampNeg σ ρ g τ).2.1 (am_new 15 j.toNatClampNeg σ ρ g τ).2.2.1 (am_new 15 j.toNatClampNeg σ ρ g τ).2.2.2 Q := aw_nwa m164 d164_125 rfl rfl (by decide) hj
theorem d164_127 : decode cX12_init 127 = .ok (.putfield 55, 3) := by decide +kernel
theorem s164_127 {d : Nat} {st : List Value} {σ : am_I} {ρ : am_R} {g : am_J} {τ : am_T} {Q : am_Q} {x0 x1 : Value} {a b : Nat} (ht : τ.1 a = 12) : AW d 164 127 [x0, x1] (.ref b :: .ref a :: st) σ ρ g τ Q = AW d 164 130 [x0, x1] (st) σ (am_u ρ a 15 (some b)) g τ Q := aw_pr m164 d164_127 rfl rfl (Or.inr ⟨rfl, rfl⟩) rfl ht
theorem s164_127n {d : Nat} {st : List Value} {σ : am_I} {ρ : am_R} {g : am_J} {τ : am_T} {Q : am_Q} {x0 x1 : Value} {a : Nat} (ht : τ.1 a = 12) : AW d 164 127 [x0, x1] (.null :: .ref a :: st) σ ρ g τ Q = AW d 164 130 [x0, x1] (st) σ (am_u ρ a 15 none) g τ Q := aw_pn m164 d164_127 rfl rfl (Or.inr ⟨rfl, rfl⟩) rfl ht
theorem d164_130 : decode cX12_init 130 = .ok (.aload_n 0, 1) := by decide +kernel
theorem s164_130 {d : Nat} {st : List Value} {σ : am_I} {ρ : am_R} {g : am_J} {τ : am_T} {Q : am_Q} {x1 : Value} {v : Nat} : AW d 164 130 [.ref v, x1] (st) σ ρ g τ Q = AW d 164 131 [.ref v, x1] (.ref v :: st) σ ρ g τ Q := aw_lc m164 d164_130 rfl rfl rfl
theorem s164_130n {d : Nat} {st : List Value} {σ : am_I} {ρ : am_R} {g : am_J} {τ : am_T} {Q : am_Q} {x1 : Value} : AW d 164 130 [.null, x1] (st) σ ρ g τ Q = AW d 164 131 [.null, x1] (.null :: st) σ ρ g τ Q := aw_lc m164 d164_130 rfl rfl rfl
theorem d164_131 : decode cX12_init 131 = .ok (.bipush 16, 2) := by decide +kernel
theorem s164_131 {d : Nat} {st : List Value} {σ : am_I} {ρ : am_R} {g : am_J} {τ : am_T} {Q : am_Q} {x0 x1 : Value} : AW d 164 131 [x0, x1] (st) σ ρ g τ Q = AW d 164 133 [x0, x1] (.int 16 :: st) σ ρ g τ Q := aw_lc m164 d164_131 rfl rfl rfl
theorem d164_133 : decode cX12_init 133 = .ok (.newarray .int, 2) := by decide +kernel
theorem s164_133 {d : Nat} {st : List Value} {σ : am_I} {ρ : am_R} {g : am_J} {τ : am_T} {Q : am_Q} {x0 x1 : Value} {j : Int32} (hj : ¬ j < 0 ∧ j.toNatClampNeg ≤ 10000) : AW d 164 133 [x0, x1] (.int j :: st) σ ρ g τ Q = AW d 164 135 [x0, x1] (.ref τ.2.2.1 :: st) (am_new 15 j.toNatClampNeg σ ρ g τ).1 (am_new 15 j.toNatClampNeg σ ρ g τ).2.1 (am_new 15 j.toNatClampNeg σ ρ g τ).2.2.1 (am_new 15 j.toNatClampNeg σ ρ g τ).2.2.2 Q := aw_nwa m164 d164_133 rfl rfl (by decide) hj
theorem d164_135 : decode cX12_init 135 = .ok (.putfield 58, 3) := by decide +kernel
theorem s164_135 {d : Nat} {st : List Value} {σ : am_I} {ρ : am_R} {g : am_J} {τ : am_T} {Q : am_Q} {x0 x1 : Value} {a b : Nat} (ht : τ.1 a = 12) : AW d 164 135 [x0, x1] (.ref b :: .ref a :: st) σ ρ g τ Q = AW d 164 138 [x0, x1] (st) σ (am_u ρ a 16 (some b)) g τ Q := aw_pr m164 d164_135 rfl rfl (Or.inr ⟨rfl, rfl⟩) rfl ht
theorem s164_135n {d : Nat} {st : List Value} {σ : am_I} {ρ : am_R} {g : am_J} {τ : am_T} {Q : am_Q} {x0 x1 : Value} {a : Nat} (ht : τ.1 a = 12) : AW d 164 135 [x0, x1] (.null :: .ref a :: st) σ ρ g τ Q = AW d 164 138 [x0, x1] (st) σ (am_u ρ a 16 none) g τ Q := aw_pn m164 d164_135 rfl rfl (Or.inr ⟨rfl, rfl⟩) rfl ht
theorem d164_138 : decode cX12_init 138 = .ok (.aload_n 0, 1) := by decide +kernel
theorem s164_138 {d : Nat} {st : List Value} {σ : am_I} {ρ : am_R} {g : am_J} {τ : am_T} {Q : am_Q} {x1 : Value} {v : Nat} : AW d 164 138 [.ref v, x1] (st) σ ρ g τ Q = AW d 164 139 [.ref v, x1] (.ref v :: st) σ ρ g τ Q := aw_lc m164 d164_138 rfl rfl rfl
theorem s164_138n {d : Nat} {st : List Value} {σ : am_I} {ρ : am_R} {g : am_J} {τ : am_T} {Q : am_Q} {x1 : Value} : AW d 164 138 [.null, x1] (st) σ ρ g τ Q = AW d 164 139 [.null, x1] (.null :: st) σ ρ g τ Q := aw_lc m164 d164_138 rfl rfl rfl
theorem d164_139 : decode cX12_init 139 = .ok (.bipush 16, 2) := by decide +kernel
theorem s164_139 {d : Nat} {st : List Value} {σ : am_I} {ρ : am_R} {g : am_J} {τ : am_T} {Q : am_Q} {x0 x1 : Value} : AW d 164 139 [x0, x1] (st) σ ρ g τ Q = AW d 164 141 [x0, x1] (.int 16 :: st) σ ρ g τ Q := aw_lc m164 d164_139 rfl rfl rfl
theorem d164_141 : decode cX12_init 141 = .ok (.newarray .int, 2) := by decide +kernel
theorem s164_141 {d : Nat} {st : List Value} {σ : am_I} {ρ : am_R} {g : am_J} {τ : am_T} {Q : am_Q} {x0 x1 : Value} {j : Int32} (hj : ¬ j < 0 ∧ j.toNatClampNeg ≤ 10000) : AW d 164 141 [x0, x1] (.int j :: st) σ ρ g τ Q = AW d 164 143 [x0, x1] (.ref τ.2.2.1 :: st) (am_new 15 j.toNatClampNeg σ ρ g τ).1 (am_new 15 j.toNatClampNeg σ ρ g τ).2.1 (am_new 15 j.toNatClampNeg σ ρ g τ).2.2.1 (am_new 15 j.toNatClampNeg σ ρ g τ).2.2.2 Q := aw_nwa m164 d164_141 rfl rfl (by decide) hj
theorem d164_143 : decode cX12_init 143 = .ok (.putfield 61, 3) := by decide +kernel
theorem s164_143 {d : Nat} {st : List Value} {σ : am_I} {ρ : am_R} {g : am_J} {τ : am_T} {Q : am_Q} {x0 x1 : Value} {a b : Nat} (ht : τ.1 a = 12) : AW d 164 143 [x0, x1] (.ref b :: .ref a :: st) σ ρ g τ Q = AW d 164 146 [x0, x1] (st) σ (am_u ρ a 17 (some b)) g τ Q := aw_pr m164 d164_143 rfl rfl (Or.inr ⟨rfl, rfl⟩) rfl ht
theorem s164_143n {d : Nat} {st : List Value} {σ : am_I} {ρ : am_R} {g : am_J} {τ : am_T} {Q : am_Q} {x0 x1 : Value} {a : Nat} (ht : τ.1 a = 12) : AW d 164 143 [x0, x1] (.null :: .ref a :: st) σ ρ g τ Q = AW d 164 146 [x0, x1] (st) σ (am_u ρ a 17 none) g τ Q := aw_pn m164 d164_143 rfl rfl (Or.inr ⟨rfl, rfl⟩) rfl ht
theorem d164_146 : decode cX12_init 146 = .ok (.aload_n 0, 1) := by decide +kernel
theorem s164_146 {d : Nat} {st : List Value} {σ : am_I} {ρ : am_R} {g : am_J} {τ : am_T} {Q : am_Q} {x1 : Value} {v : Nat} : AW d 164 146 [.ref v, x1] (st) σ ρ g τ Q = AW d 164 147 [.ref v, x1] (.ref v :: st) σ ρ g τ Q := aw_lc m164 d164_146 rfl rfl rfl
theorem s164_146n {d : Nat} {st : List Value} {σ : am_I} {ρ : am_R} {g : am_J} {τ : am_T} {Q : am_Q} {x1 : Value} : AW d 164 146 [.null, x1] (st) σ ρ g τ Q = AW d 164 147 [.null, x1] (.null :: st) σ ρ g τ Q := aw_lc m164 d164_146 rfl rfl rfl
theorem d164_147 : decode cX12_init 147 = .ok (.bipush 112, 2) := by decide +kernel
theorem s164_147 {d : Nat} {st : List Value} {σ : am_I} {ρ : am_R} {g : am_J} {τ : am_T} {Q : am_Q} {x0 x1 : Value} : AW d 164 147 [x0, x1] (st) σ ρ g τ Q = AW d 164 149 [x0, x1] (.int 112 :: st) σ ρ g τ Q := aw_lc m164 d164_147 rfl rfl rfl
theorem d164_149 : decode cX12_init 149 = .ok (.newarray .int, 2) := by decide +kernel
theorem s164_149 {d : Nat} {st : List Value} {σ : am_I} {ρ : am_R} {g : am_J} {τ : am_T} {Q : am_Q} {x0 x1 : Value} {j : Int32} (hj : ¬ j < 0 ∧ j.toNatClampNeg ≤ 10000) : AW d 164 149 [x0, x1] (.int j :: st) σ ρ g τ Q = AW d 164 151 [x0, x1] (.ref τ.2.2.1 :: st) (am_new 15 j.toNatClampNeg σ ρ g τ).1 (am_new 15 j.toNatClampNeg σ ρ g τ).2.1 (am_new 15 j.toNatClampNeg σ ρ g τ).2.2.1 (am_new 15 j.toNatClampNeg σ ρ g τ).2.2.2 Q := aw_nwa m164 d164_149 rfl rfl (by decide) hj
theorem d164_151 : decode cX12_init 151 = .ok (.putfield 64, 3) := by decide +kernel
theorem s164_151 {d : Nat} {st : List Value} {σ : am_I} {ρ : am_R} {g : am_J} {τ : am_T} {Q : am_Q} {x0 x1 : Value} {a b : Nat} (ht : τ.1 a = 12) : AW d 164 151 [x0, x1] (.ref b :: .ref a :: st) σ ρ g τ Q = AW d 164 154 [x0, x1] (st) σ (am_u ρ a 18 (some b)) g τ Q := aw_pr m164 d164_151 rfl rfl (Or.inr ⟨rfl, rfl⟩) rfl ht
theorem s164_151n {d : Nat} {st : List Value} {σ : am_I} {ρ : am_R} {g : am_J} {τ : am_T} {Q : am_Q} {x0 x1 : Value} {a : Nat} (ht : τ.1 a = 12) : AW d 164 151 [x0, x1] (.null :: .ref a :: st) σ ρ g τ Q = AW d 164 154 [x0, x1] (st) σ (am_u ρ a 18 none) g τ Q := aw_pn m164 d164_151 rfl rfl (Or.inr ⟨rfl, rfl⟩) rfl ht
theorem d164_154 : decode cX12_init 154 = .ok (.aload_n 0, 1) := by decide +kernel
theorem s164_154 {d : Nat} {st : List Value} {σ : am_I} {ρ : am_R} {g : am_J} {τ : am_T} {Q : am_Q} {x1 : Value} {v : Nat} : AW d 164 154 [.ref v, x1] (st) σ ρ g τ Q = AW d 164 155 [.ref v, x1] (.ref v :: st) σ ρ g τ Q := aw_lc m164 d164_154 rfl rfl rfl
theorem s164_154n {d : Nat} {st : List Value} {σ : am_I} {ρ : am_R} {g : am_J} {τ : am_T} {Q : am_Q} {x1 : Value} : AW d 164 154 [.null, x1] (st) σ ρ g τ Q = AW d 164 155 [.null, x1] (.null :: st) σ ρ g τ Q := aw_lc m164 d164_154 rfl rfl rfl
theorem d164_155 : decode cX12_init 155 = .ok (.bipush 9, 2) := by decide +kernel
theorem s164_155 {d : Nat} {st : List Value} {σ : am_I} {ρ : am_R} {g : am_J} {τ : am_T} {Q : am_Q} {x0 x1 : Value} : AW d 164 155 [x0, x1] (st) σ ρ g τ Q = AW d 164 157 [x0, x1] (.int 9 :: st) σ ρ g τ Q := aw_lc m164 d164_155 rfl rfl rfl
theorem d164_157 : decode cX12_init 157 = .ok (.newarray .int, 2) := by decide +kernel
theorem s164_157 {d : Nat} {st : List Value} {σ : am_I} {ρ : am_R} {g : am_J} {τ : am_T} {Q : am_Q} {x0 x1 : Value} {j : Int32} (hj : ¬ j < 0 ∧ j.toNatClampNeg ≤ 10000) : AW d 164 157 [x0, x1] (.int j :: st) σ ρ g τ Q = AW d 164 159 [x0, x1] (.ref τ.2.2.1 :: st) (am_new 15 j.toNatClampNeg σ ρ g τ).1 (am_new 15 j.toNatClampNeg σ ρ g τ).2.1 (am_new 15 j.toNatClampNeg σ ρ g τ).2.2.1 (am_new 15 j.toNatClampNeg σ ρ g τ).2.2.2 Q := aw_nwa m164 d164_157 rfl rfl (by decide) hj
theorem d164_159 : decode cX12_init 159 = .ok (.putfield 67, 3) := by decide +kernel
theorem s164_159 {d : Nat} {st : List Value} {σ : am_I} {ρ : am_R} {g : am_J} {τ : am_T} {Q : am_Q} {x0 x1 : Value} {a b : Nat} (ht : τ.1 a = 12) : AW d 164 159 [x0, x1] (.ref b :: .ref a :: st) σ ρ g τ Q = AW d 164 162 [x0, x1] (st) σ (am_u ρ a 19 (some b)) g τ Q := aw_pr m164 d164_159 rfl rfl (Or.inr ⟨rfl, rfl⟩) rfl ht
theorem s164_159n {d : Nat} {st : List Value} {σ : am_I} {ρ : am_R} {g : am_J} {τ : am_T} {Q : am_Q} {x0 x1 : Value} {a : Nat} (ht : τ.1 a = 12) : AW d 164 159 [x0, x1] (.null :: .ref a :: st) σ ρ g τ Q = AW d 164 162 [x0, x1] (st) σ (am_u ρ a 19 none) g τ Q := aw_pn m164 d164_159 rfl rfl (Or.inr ⟨rfl, rfl⟩) rfl ht
theorem d164_162 : decode cX12_init 162 = .ok (.aload_n 0, 1) := by decide +kernel
theorem s164_162 {d : Nat} {st : List Value} {σ : am_I} {ρ : am_R} {g : am_J} {τ : am_T} {Q : am_Q} {x1 : Value} {v : Nat} : AW d 164 162 [.ref v, x1] (st) σ ρ g τ Q = AW d 164 163 [.ref v, x1] (.ref v :: st) σ ρ g τ Q := aw_lc m164 d164_162 rfl rfl rfl
theorem s164_162n {d : Nat} {st : List Value} {σ : am_I} {ρ : am_R} {g : am_J} {τ : am_T} {Q : am_Q} {x1 : Value} : AW d 164 162 [.null, x1] (st) σ ρ g τ Q = AW d 164 163 [.null, x1] (.null :: st) σ ρ g τ Q := aw_lc m164 d164_162 rfl rfl rfl
theorem d164_163 : decode cX12_init 163 = .ok (.bipush 9, 2) := by decide +kernel
theorem s164_163 {d : Nat} {st : List Value} {σ : am_I} {ρ : am_R} {g : am_J} {τ : am_T} {Q : am_Q} {x0 x1 : Value} : AW d 164 163 [x0, x1] (st) σ ρ g τ Q = AW d 164 165 [x0, x1] (.int 9 :: st) σ ρ g τ Q := aw_lc m164 d164_163 rfl rfl rfl
theorem d164_165 : decode cX12_init 165 = .ok (.newarray .int, 2) := by decide +kernel
theorem s164_165 {d : Nat} {st : List Value} {σ : am_I} {ρ : am_R} {g : am_J} {τ : am_T} {Q : am_Q} {x0 x1 : Value} {j : Int32} (hj : ¬ j < 0 ∧ j.toNatClampNeg ≤ 10000) : AW d 164 165 [x0, x1] (.int j :: st) σ ρ g τ Q = AW d 164 167 [x0, x1] (.ref τ.2.2.1 :: st) (am_new 15 j.toNatClampNeg σ ρ g τ).1 (am_new 15 j.toNatClampNeg σ ρ g τ).2.1 (am_new 15 j.toNatClampNeg σ ρ g τ).2.2.1 (am_new 15 j.toNatClampNeg σ ρ g τ).2.2.2 Q := aw_nwa m164 d164_165 rfl rfl (by decide) hj
theorem d164_167 : decode cX12_init 167 = .ok (.putfield 70, 3) := by decide +kernel
theorem s164_167 {d : Nat} {st : List Value} {σ : am_I} {ρ : am_R} {g : am_J} {τ : am_T} {Q : am_Q} {x0 x1 : Value} {a b : Nat} (ht : τ.1 a = 12) : AW d 164 167 [x0, x1] (.ref b :: .ref a :: st) σ ρ g τ Q = AW d 164 170 [x0, x1] (st) σ (am_u ρ a 20 (some b)) g τ Q := aw_pr m164 d164_167 rfl rfl (Or.inr ⟨rfl, rfl⟩) rfl ht
theorem s164_167n {d : Nat} {st : List Value} {σ : am_I} {ρ : am_R} {g : am_J} {τ : am_T} {Q : am_Q} {x0 x1 : Value} {a : Nat} (ht : τ.1 a = 12) : AW d 164 167 [x0, x1] (.null :: .ref a :: st) σ ρ g τ Q = AW d 164 170 [x0, x1] (st) σ (am_u ρ a 20 none) g τ Q := aw_pn m164 d164_167 rfl rfl (Or.inr ⟨rfl, rfl⟩) rfl ht
theorem d164_170 : decode cX12_init 170 = .ok (.aload_n 0, 1) := by decide +kernel
theorem s164_170 {d : Nat} {st : List Value} {σ : am_I} {ρ : am_R} {g : am_J} {τ : am_T} {Q : am_Q} {x1 : Value} {v : Nat} : AW d 164 170 [.ref v, x1] (st) σ ρ g τ Q = AW d 164 171 [.ref v, x1] (.ref v :: st) σ ρ g τ Q := aw_lc m164 d164_170 rfl rfl rfl
theorem s164_170n {d : Nat} {st : List Value} {σ : am_I} {ρ : am_R} {g : am_J} {τ : am_T} {Q : am_Q} {x1 : Value} : AW d 164 170 [.null, x1] (st) σ ρ g τ Q = AW d 164 171 [.null, x1] (.null :: st) σ ρ g τ Q := aw_lc m164 d164_170 rfl rfl rfl
theorem d164_171 : decode cX12_init 171 = .ok (.bipush 90, 2) := by decide +kernel
theorem s164_171 {d : Nat} {st : List Value} {σ : am_I} {ρ : am_R} {g : am_J} {τ : am_T} {Q : am_Q} {x0 x1 : Value} : AW d 164 171 [x0, x1] (st) σ ρ g τ Q = AW d 164 173 [x0, x1] (.int 90 :: st) σ ρ g τ Q := aw_lc m164 d164_171 rfl rfl rfl
theorem d164_173 : decode cX12_init 173 = .ok (.newarray .int, 2) := by decide +kernel
theorem s164_173 {d : Nat} {st : List Value} {σ : am_I} {ρ : am_R} {g : am_J} {τ : am_T} {Q : am_Q} {x0 x1 : Value} {j : Int32} (hj : ¬ j < 0 ∧ j.toNatClampNeg ≤ 10000) : AW d 164 173 [x0, x1] (.int j :: st) σ ρ g τ Q = AW d 164 175 [x0, x1] (.ref τ.2.2.1 :: st) (am_new 15 j.toNatClampNeg σ ρ g τ).1 (am_new 15 j.toNatClampNeg σ ρ g τ).2.1 (am_new 15 j.toNatClampNeg σ ρ g τ).2.2.1 (am_new 15 j.toNatClampNeg σ ρ g τ).2.2.2 Q := aw_nwa m164 d164_173 rfl rfl (by decide) hj
theorem d164_175 : decode cX12_init 175 = .ok (.putfield 73, 3) := by decide +kernel
theorem s164_175 {d : Nat} {st : List Value} {σ : am_I} {ρ : am_R} {g : am_J} {τ : am_T} {Q : am_Q} {x0 x1 : Value} {a b : Nat} (ht : τ.1 a = 12) : AW d 164 175 [x0, x1] (.ref b :: .ref a :: st) σ ρ g τ Q = AW d 164 178 [x0, x1] (st) σ (am_u ρ a 21 (some b)) g τ Q := aw_pr m164 d164_175 rfl rfl (Or.inr ⟨rfl, rfl⟩) rfl ht
theorem s164_175n {d : Nat} {st : List Value} {σ : am_I} {ρ : am_R} {g : am_J} {τ : am_T} {Q : am_Q} {x0 x1 : Value} {a : Nat} (ht : τ.1 a = 12) : AW d 164 175 [x0, x1] (.null :: .ref a :: st) σ ρ g τ Q = AW d 164 178 [x0, x1] (st) σ (am_u ρ a 21 none) g τ Q := aw_pn m164 d164_175 rfl rfl (Or.inr ⟨rfl, rfl⟩) rfl ht
theorem d164_178 : decode cX12_init 178 = .ok (.aload_n 0, 1) := by decide +kernel
theorem s164_178 {d : Nat} {st : List Value} {σ : am_I} {ρ : am_R} {g : am_J} {τ : am_T} {Q : am_Q} {x1 : Value} {v : Nat} : AW d 164 178 [.ref v, x1] (st) σ ρ g τ Q = AW d 164 179 [.ref v, x1] (.ref v :: st) σ ρ g τ Q := aw_lc m164 d164_178 rfl rfl rfl
theorem s164_178n {d : Nat} {st : List Value} {σ : am_I} {ρ : am_R} {g : am_J} {τ : am_T} {Q : am_Q} {x1 : Value} : AW d 164 178 [.null, x1] (st) σ ρ g τ Q = AW d 164 179 [.null, x1] (.null :: st) σ ρ g τ Q := aw_lc m164 d164_178 rfl rfl rfl
theorem d164_179 : decode cX12_init 179 = .ok (.bipush 90, 2) := by decide +kernel
theorem s164_179 {d : Nat} {st : List Value} {σ : am_I} {ρ : am_R} {g : am_J} {τ : am_T} {Q : am_Q} {x0 x1 : Value} : AW d 164 179 [x0, x1] (st) σ ρ g τ Q = AW d 164 181 [x0, x1] (.int 90 :: st) σ ρ g τ Q := aw_lc m164 d164_179 rfl rfl rfl
theorem d164_181 : decode cX12_init 181 = .ok (.newarray .int, 2) := by decide +kernel
theorem s164_181 {d : Nat} {st : List Value} {σ : am_I} {ρ : am_R} {g : am_J} {τ : am_T} {Q : am_Q} {x0 x1 : Value} {j : Int32} (hj : ¬ j < 0 ∧ j.toNatClampNeg ≤ 10000) : AW d 164 181 [x0, x1] (.int j :: st) σ ρ g τ Q = AW d 164 183 [x0, x1] (.ref τ.2.2.1 :: st) (am_new 15 j.toNatClampNeg σ ρ g τ).1 (am_new 15 j.toNatClampNeg σ ρ g τ).2.1 (am_new 15 j.toNatClampNeg σ ρ g τ).2.2.1 (am_new 15 j.toNatClampNeg σ ρ g τ).2.2.2 Q := aw_nwa m164 d164_181 rfl rfl (by decide) hj
theorem d164_183 : decode cX12_init 183 = .ok (.putfield 76, 3) := by decide +kernel
theorem s164_183 {d : Nat} {st : List Value} {σ : am_I} {ρ : am_R} {g : am_J} {τ : am_T} {Q : am_Q} {x0 x1 : Value} {a b : Nat} (ht : τ.1 a = 12) : AW d 164 183 [x0, x1] (.ref b :: .ref a :: st) σ ρ g τ Q = AW d 164 186 [x0, x1] (st) σ (am_u ρ a 22 (some b)) g τ Q := aw_pr m164 d164_183 rfl rfl (Or.inr ⟨rfl, rfl⟩) rfl ht
theorem s164_183n {d : Nat} {st : List Value} {σ : am_I} {ρ : am_R} {g : am_J} {τ : am_T} {Q : am_Q} {x0 x1 : Value} {a : Nat} (ht : τ.1 a = 12) : AW d 164 183 [x0, x1] (.null :: .ref a :: st) σ ρ g τ Q = AW d 164 186 [x0, x1] (st) σ (am_u ρ a 22 none) g τ Q := aw_pn m164 d164_183 rfl rfl (Or.inr ⟨rfl, rfl⟩) rfl ht
theorem d164_186 : decode cX12_init 186 = .ok (.aload_n 0, 1) := by decide +kernel
theorem s164_186 {d : Nat} {st : List Value} {σ : am_I} {ρ : am_R} {g : am_J} {τ : am_T} {Q : am_Q} {x1 : Value} {v : Nat} : AW d 164 186 [.ref v, x1] (st) σ ρ g τ Q = AW d 164 187 [.ref v, x1] (.ref v :: st) σ ρ g τ Q := aw_lc m164 d164_186 rfl rfl rfl
theorem s164_186n {d : Nat} {st : List Value} {σ : am_I} {ρ : am_R} {g : am_J} {τ : am_T} {Q : am_Q} {x1 : Value} : AW d 164 186 [.null, x1] (st) σ ρ g τ Q = AW d 164 187 [.null, x1] (.null :: st) σ ρ g τ Q := aw_lc m164 d164_186 rfl rfl rfl
theorem d164_187 : decode cX12_init 187 = .ok (.bipush 90, 2) := by decide +kernel
theorem s164_187 {d : Nat} {st : List Value} {σ : am_I} {ρ : am_R} {g : am_J} {τ : am_T} {Q : am_Q} {x0 x1 : Value} : AW d 164 187 [x0, x1] (st) σ ρ g τ Q = AW d 164 189 [x0, x1] (.int 90 :: st) σ ρ g τ Q := aw_lc m164 d164_187 rfl rfl rfl
theorem d164_189 : decode cX12_init 189 = .ok (.newarray .int, 2) := by decide +kernel
theorem s164_189 {d : Nat} {st : List Value} {σ : am_I} {ρ : am_R} {g : am_J} {τ : am_T} {Q : am_Q} {x0 x1 : Value} {j : Int32} (hj : ¬ j < 0 ∧ j.toNatClampNeg ≤ 10000) : AW d 164 189 [x0, x1] (.int j :: st) σ ρ g τ Q = AW d 164 191 [x0, x1] (.ref τ.2.2.1 :: st) (am_new 15 j.toNatClampNeg σ ρ g τ).1 (am_new 15 j.toNatClampNeg σ ρ g τ).2.1 (am_new 15 j.toNatClampNeg σ ρ g τ).2.2.1 (am_new 15 j.toNatClampNeg σ ρ g τ).2.2.2 Q := aw_nwa m164 d164_189 rfl rfl (by decide) hj
theorem d164_191 : decode cX12_init 191 = .ok (.putfield 79, 3) := by decide +kernel
theorem s164_191 {d : Nat} {st : List Value} {σ : am_I} {ρ : am_R} {g : am_J} {τ : am_T} {Q : am_Q} {x0 x1 : Value} {a b : Nat} (ht : τ.1 a = 12) : AW d 164 191 [x0, x1] (.ref b :: .ref a :: st) σ ρ g τ Q = AW d 164 194 [x0, x1] (st) σ (am_u ρ a 23 (some b)) g τ Q := aw_pr m164 d164_191 rfl rfl (Or.inr ⟨rfl, rfl⟩) rfl ht
theorem s164_191n {d : Nat} {st : List Value} {σ : am_I} {ρ : am_R} {g : am_J} {τ : am_T} {Q : am_Q} {x0 x1 : Value} {a : Nat} (ht : τ.1 a = 12) : AW d 164 191 [x0, x1] (.null :: .ref a :: st) σ ρ g τ Q = AW d 164 194 [x0, x1] (st) σ (am_u ρ a 23 none) g τ Q := aw_pn m164 d164_191 rfl rfl (Or.inr ⟨rfl, rfl⟩) rfl ht
theorem d164_194 : decode cX12_init 194 = .ok (.aload_n 0, 1) := by decide +kernel
theorem s164_194 {d : Nat} {st : List Value} {σ : am_I} {ρ : am_R} {g : am_J} {τ : am_T} {Q : am_Q} {x1 : Value} {v : Nat} : AW d 164 194 [.ref v, x1] (st) σ ρ g τ Q = AW d 164 195 [.ref v, x1] (.ref v :: st) σ ρ g τ Q := aw_lc m164 d164_194 rfl rfl rfl
theorem s164_194n {d : Nat} {st : List Value} {σ : am_I} {ρ : am_R} {g : am_J} {τ : am_T} {Q : am_Q} {x1 : Value} : AW d 164 194 [.null, x1] (st) σ ρ g τ Q = AW d 164 195 [.null, x1] (.null :: st) σ ρ g τ Q := aw_lc m164 d164_194 rfl rfl rfl
theorem d164_195 : decode cX12_init 195 = .ok (.bipush 90, 2) := by decide +kernel
theorem s164_195 {d : Nat} {st : List Value} {σ : am_I} {ρ : am_R} {g : am_J} {τ : am_T} {Q : am_Q} {x0 x1 : Value} : AW d 164 195 [x0, x1] (st) σ ρ g τ Q = AW d 164 197 [x0, x1] (.int 90 :: st) σ ρ g τ Q := aw_lc m164 d164_195 rfl rfl rfl
theorem d164_197 : decode cX12_init 197 = .ok (.newarray .int, 2) := by decide +kernel
theorem s164_197 {d : Nat} {st : List Value} {σ : am_I} {ρ : am_R} {g : am_J} {τ : am_T} {Q : am_Q} {x0 x1 : Value} {j : Int32} (hj : ¬ j < 0 ∧ j.toNatClampNeg ≤ 10000) : AW d 164 197 [x0, x1] (.int j :: st) σ ρ g τ Q = AW d 164 199 [x0, x1] (.ref τ.2.2.1 :: st) (am_new 15 j.toNatClampNeg σ ρ g τ).1 (am_new 15 j.toNatClampNeg σ ρ g τ).2.1 (am_new 15 j.toNatClampNeg σ ρ g τ).2.2.1 (am_new 15 j.toNatClampNeg σ ρ g τ).2.2.2 Q := aw_nwa m164 d164_197 rfl rfl (by decide) hj
theorem d164_199 : decode cX12_init 199 = .ok (.putfield 82, 3) := by decide +kernel
theorem s164_199 {d : Nat} {st : List Value} {σ : am_I} {ρ : am_R} {g : am_J} {τ : am_T} {Q : am_Q} {x0 x1 : Value} {a b : Nat} (ht : τ.1 a = 12) : AW d 164 199 [x0, x1] (.ref b :: .ref a :: st) σ ρ g τ Q = AW d 164 202 [x0, x1] (st) σ (am_u ρ a 24 (some b)) g τ Q := aw_pr m164 d164_199 rfl rfl (Or.inr ⟨rfl, rfl⟩) rfl ht
theorem s164_199n {d : Nat} {st : List Value} {σ : am_I} {ρ : am_R} {g : am_J} {τ : am_T} {Q : am_Q} {x0 x1 : Value} {a : Nat} (ht : τ.1 a = 12) : AW d 164 199 [x0, x1] (.null :: .ref a :: st) σ ρ g τ Q = AW d 164 202 [x0, x1] (st) σ (am_u ρ a 24 none) g τ Q := aw_pn m164 d164_199 rfl rfl (Or.inr ⟨rfl, rfl⟩) rfl ht
theorem d164_202 : decode cX12_init 202 = .ok (.aload_n 0, 1) := by decide +kernel
theorem s164_202 {d : Nat} {st : List Value} {σ : am_I} {ρ : am_R} {g : am_J} {τ : am_T} {Q : am_Q} {x1 : Value} {v : Nat} : AW d 164 202 [.ref v, x1] (st) σ ρ g τ Q = AW d 164 203 [.ref v, x1] (.ref v :: st) σ ρ g τ Q := aw_lc m164 d164_202 rfl rfl rfl
theorem s164_202n {d : Nat} {st : List Value} {σ : am_I} {ρ : am_R} {g : am_J} {τ : am_T} {Q : am_Q} {x1 : Value} : AW d 164 202 [.null, x1] (st) σ ρ g τ Q = AW d 164 203 [.null, x1] (.null :: st) σ ρ g τ Q := aw_lc m164 d164_202 rfl rfl rfl
theorem d164_203 : decode cX12_init 203 = .ok (.bipush 90, 2) := by decide +kernel
theorem s164_203 {d : Nat} {st : List Value} {σ : am_I} {ρ : am_R} {g : am_J} {τ : am_T} {Q : am_Q} {x0 x1 : Value} : AW d 164 203 [x0, x1] (st) σ ρ g τ Q = AW d 164 205 [x0, x1] (.int 90 :: st) σ ρ g τ Q := aw_lc m164 d164_203 rfl rfl rfl
theorem d164_205 : decode cX12_init 205 = .ok (.newarray .int, 2) := by decide +kernel
theorem s164_205 {d : Nat} {st : List Value} {σ : am_I} {ρ : am_R} {g : am_J} {τ : am_T} {Q : am_Q} {x0 x1 : Value} {j : Int32} (hj : ¬ j < 0 ∧ j.toNatClampNeg ≤ 10000) : AW d 164 205 [x0, x1] (.int j :: st) σ ρ g τ Q = AW d 164 207 [x0, x1] (.ref τ.2.2.1 :: st) (am_new 15 j.toNatClampNeg σ ρ g τ).1 (am_new 15 j.toNatClampNeg σ ρ g τ).2.1 (am_new 15 j.toNatClampNeg σ ρ g τ).2.2.1 (am_new 15 j.toNatClampNeg σ ρ g τ).2.2.2 Q := aw_nwa m164 d164_205 rfl rfl (by decide) hj
theorem d164_207 : decode cX12_init 207 = .ok (.putfield 85, 3) := by decide +kernel
theorem s164_207 {d : Nat} {st : List Value} {σ : am_I} {ρ : am_R} {g : am_J} {τ : am_T} {Q : am_Q} {x0 x1 : Value} {a b : Nat} (ht : τ.1 a = 12) : AW d 164 207 [x0, x1] (.ref b :: .ref a :: st) σ ρ g τ Q = AW d 164 210 [x0, x1] (st) σ (am_u ρ a 25 (some b)) g τ Q := aw_pr m164 d164_207 rfl rfl (Or.inr ⟨rfl, rfl⟩) rfl ht
theorem s164_207n {d : Nat} {st : List Value} {σ : am_I} {ρ : am_R} {g : am_J} {τ : am_T} {Q : am_Q} {x0 x1 : Value} {a : Nat} (ht : τ.1 a = 12) : AW d 164 207 [x0, x1] (.null :: .ref a :: st) σ ρ g τ Q = AW d 164 210 [x0, x1] (st) σ (am_u ρ a 25 none) g τ Q := aw_pn m164 d164_207 rfl rfl (Or.inr ⟨rfl, rfl⟩) rfl ht
theorem d164_210 : decode cX12_init 210 = .ok (.aload_n 0, 1) := by decide +kernel
theorem s164_210 {d : Nat} {st : List Value} {σ : am_I} {ρ : am_R} {g : am_J} {τ : am_T} {Q : am_Q} {x1 : Value} {v : Nat} : AW d 164 210 [.ref v, x1] (st) σ ρ g τ Q = AW d 164 211 [.ref v, x1] (.ref v :: st) σ ρ g τ Q := aw_lc m164 d164_210 rfl rfl rfl
theorem s164_210n {d : Nat} {st : List Value} {σ : am_I} {ρ : am_R} {g : am_J} {τ : am_T} {Q : am_Q} {x1 : Value} : AW d 164 210 [.null, x1] (st) σ ρ g τ Q = AW d 164 211 [.null, x1] (.null :: st) σ ρ g τ Q := aw_lc m164 d164_210 rfl rfl rfl
theorem d164_211 : decode cX12_init 211 = .ok (.sipush 2304, 3) := by decide +kernel
theorem s164_211 {d : Nat} {st : List Value} {σ : am_I} {ρ : am_R} {g : am_J} {τ : am_T} {Q : am_Q} {x0 x1 : Value} : AW d 164 211 [x0, x1] (st) σ ρ g τ Q = AW d 164 214 [x0, x1] (.int 2304 :: st) σ ρ g τ Q := aw_lc m164 d164_211 rfl rfl rfl
theorem d164_214 : decode cX12_init 214 = .ok (.newarray .int, 2) := by decide +kernel
theorem s164_214 {d : Nat} {st : List Value} {σ : am_I} {ρ : am_R} {g : am_J} {τ : am_T} {Q : am_Q} {x0 x1 : Value} {j : Int32} (hj : ¬ j < 0 ∧ j.toNatClampNeg ≤ 10000) : AW d 164 214 [x0, x1] (.int j :: st) σ ρ g τ Q = AW d 164 216 [x0, x1] (.ref τ.2.2.1 :: st) (am_new 15 j.toNatClampNeg σ ρ g τ).1 (am_new 15 j.toNatClampNeg σ ρ g τ).2.1 (am_new 15 j.toNatClampNeg σ ρ g τ).2.2.1 (am_new 15 j.toNatClampNeg σ ρ g τ).2.2.2 Q := aw_nwa m164 d164_214 rfl rfl (by decide) hj
theorem d164_216 : decode cX12_init 216 = .ok (.putfield 88, 3) := by decide +kernel
theorem s164_216 {d : Nat} {st : List Value} {σ : am_I} {ρ : am_R} {g : am_J} {τ : am_T} {Q : am_Q} {x0 x1 : Value} {a b : Nat} (ht : τ.1 a = 12) : AW d 164 216 [x0, x1] (.ref b :: .ref a :: st) σ ρ g τ Q = AW d 164 219 [x0, x1] (st) σ (am_u ρ a 26 (some b)) g τ Q := aw_pr m164 d164_216 rfl rfl (Or.inr ⟨rfl, rfl⟩) rfl ht
theorem s164_216n {d : Nat} {st : List Value} {σ : am_I} {ρ : am_R} {g : am_J} {τ : am_T} {Q : am_Q} {x0 x1 : Value} {a : Nat} (ht : τ.1 a = 12) : AW d 164 216 [x0, x1] (.null :: .ref a :: st) σ ρ g τ Q = AW d 164 219 [x0, x1] (st) σ (am_u ρ a 26 none) g τ Q := aw_pn m164 d164_216 rfl rfl (Or.inr ⟨rfl, rfl⟩) rfl ht
theorem d164_219 : decode cX12_init 219 = .ok (.aload_n 0, 1) := by decide +kernel
theorem s164_219 {d : Nat} {st : List Value} {σ : am_I} {ρ : am_R} {g : am_J} {τ : am_T} {Q : am_Q} {x1 : Value} {v : Nat} : AW d 164 219 [.ref v, x1] (st) σ ρ g τ Q = AW d 164 220 [.ref v, x1] (.ref v :: st) σ ρ g τ Q := aw_lc m164 d164_219 rfl rfl rfl
theorem s164_219n {d : Nat} {st : List Value} {σ : am_I} {ρ : am_R} {g : am_J} {τ : am_T} {Q : am_Q} {x1 : Value} : AW d 164 219 [.null, x1] (st) σ ρ g τ Q = AW d 164 220 [.null, x1] (.null :: st) σ ρ g τ Q := aw_lc m164 d164_219 rfl rfl rfl
theorem d164_220 : decode cX12_init 220 = .ok (.bipush 6, 2) := by decide +kernel
theorem s164_220 {d : Nat} {st : List Value} {σ : am_I} {ρ : am_R} {g : am_J} {τ : am_T} {Q : am_Q} {x0 x1 : Value} : AW d 164 220 [x0, x1] (st) σ ρ g τ Q = AW d 164 222 [x0, x1] (.int 6 :: st) σ ρ g τ Q := aw_lc m164 d164_220 rfl rfl rfl
theorem d164_222 : decode cX12_init 222 = .ok (.newarray .int, 2) := by decide +kernel
theorem s164_222 {d : Nat} {st : List Value} {σ : am_I} {ρ : am_R} {g : am_J} {τ : am_T} {Q : am_Q} {x0 x1 : Value} {j : Int32} (hj : ¬ j < 0 ∧ j.toNatClampNeg ≤ 10000) : AW d 164 222 [x0, x1] (.int j :: st) σ ρ g τ Q = AW d 164 224 [x0, x1] (.ref τ.2.2.1 :: st) (am_new 15 j.toNatClampNeg σ ρ g τ).1 (am_new 15 j.toNatClampNeg σ ρ g τ).2.1 (am_new 15 j.toNatClampNeg σ ρ g τ).2.2.1 (am_new 15 j.toNatClampNeg σ ρ g τ).2.2.2 Q := aw_nwa m164 d164_222 rfl rfl (by decide) hj
theorem d164_224 : decode cX12_init 224 = .ok (.putfield 91, 3) := by decide +kernel
theorem s164_224 {d : Nat} {st : List Value} {σ : am_I} {ρ : am_R} {g : am_J} {τ : am_T} {Q : am_Q} {x0 x1 : Value} {a b : Nat} (ht : τ.1 a = 12) : AW d 164 224 [x0, x1] (.ref b :: .ref a :: st) σ ρ g τ Q = AW d 164 227 [x0, x1] (st) σ (am_u ρ a 27 (some b)) g τ Q := aw_pr m164 d164_224 rfl rfl (Or.inr ⟨rfl, rfl⟩) rfl ht
theorem s164_224n {d : Nat} {st : List Value} {σ : am_I} {ρ : am_R} {g : am_J} {τ : am_T} {Q : am_Q} {x0 x1 : Value} {a : Nat} (ht : τ.1 a = 12) : AW d 164 224 [x0, x1] (.null :: .ref a :: st) σ ρ g τ Q = AW d 164 227 [x0, x1] (st) σ (am_u ρ a 27 none) g τ Q := aw_pn m164 d164_224 rfl rfl (Or.inr ⟨rfl, rfl⟩) rfl ht
theorem d164_227 : decode cX12_init 227 = .ok (.aload_n 0, 1) := by decide +kernel
theorem s164_227 {d : Nat} {st : List Value} {σ : am_I} {ρ : am_R} {g : am_J} {τ : am_T} {Q : am_Q} {x1 : Value} {v : Nat} : AW d 164 227 [.ref v, x1] (st) σ ρ g τ Q = AW d 164 228 [.ref v, x1] (.ref v :: st) σ ρ g τ Q := aw_lc m164 d164_227 rfl rfl rfl
theorem s164_227n {d : Nat} {st : List Value} {σ : am_I} {ρ : am_R} {g : am_J} {τ : am_T} {Q : am_Q} {x1 : Value} : AW d 164 227 [.null, x1] (st) σ ρ g τ Q = AW d 164 228 [.null, x1] (.null :: st) σ ρ g τ Q := aw_lc m164 d164_227 rfl rfl rfl
theorem d164_228 : decode cX12_init 228 = .ok (.bipush 6, 2) := by decide +kernel
theorem s164_228 {d : Nat} {st : List Value} {σ : am_I} {ρ : am_R} {g : am_J} {τ : am_T} {Q : am_Q} {x0 x1 : Value} : AW d 164 228 [x0, x1] (st) σ ρ g τ Q = AW d 164 230 [x0, x1] (.int 6 :: st) σ ρ g τ Q := aw_lc m164 d164_228 rfl rfl rfl
theorem d164_230 : decode cX12_init 230 = .ok (.newarray .int, 2) := by decide +kernel
theorem s164_230 {d : Nat} {st : List Value} {σ : am_I} {ρ : am_R} {g : am_J} {τ : am_T} {Q : am_Q} {x0 x1 : Value} {j : Int32} (hj : ¬ j < 0 ∧ j.toNatClampNeg ≤ 10000) : AW d 164 230 [x0, x1] (.int j :: st) σ ρ g τ Q = AW d 164 232 [x0, x1] (.ref τ.2.2.1 :: st) (am_new 15 j.toNatClampNeg σ ρ g τ).1 (am_new 15 j.toNatClampNeg σ ρ g τ).2.1 (am_new 15 j.toNatClampNeg σ ρ g τ).2.2.1 (am_new 15 j.toNatClampNeg σ ρ g τ).2.2.2 Q := aw_nwa m164 d164_230 rfl rfl (by decide) hj
theorem d164_232 : decode cX12_init 232 = .ok (.putfield 94, 3) := by decide +kernel
theorem s164_232 {d : Nat} {st : List Value} {σ : am_I} {ρ : am_R} {g : am_J} {τ : am_T} {Q : am_Q} {x0 x1 : Value} {a b : Nat} (ht : τ.1 a = 12) : AW d 164 232 [x0, x1] (.ref b :: .ref a :: st) σ ρ g τ Q = AW d 164 235 [x0, x1] (st) σ (am_u ρ a 28 (some b)) g τ Q := aw_pr m164 d164_232 rfl rfl (Or.inr ⟨rfl, rfl⟩) rfl ht
theorem s164_232n {d : Nat} {st : List Value} {σ : am_I} {ρ : am_R} {g : am_J} {τ : am_T} {Q : am_Q} {x0 x1 : Value} {a : Nat} (ht : τ.1 a = 12) : AW d 164 232 [x0, x1] (.null :: .ref a :: st) σ ρ g τ Q = AW d 164 235 [x0, x1] (st) σ (am_u ρ a 28 none) g τ Q := aw_pn m164 d164_232 rfl rfl (Or.inr ⟨rfl, rfl⟩) rfl ht
theorem d164_235 : decode cX12_init 235 = .ok (.aload_n 0, 1) := by decide +kernel
theorem s164_235 {d : Nat} {st : List Value} {σ : am_I} {ρ : am_R} {g : am_J} {τ : am_T} {Q : am_Q} {x1 : Value} {v : Nat} : AW d 164 235 [.ref v, x1] (st) σ ρ g τ Q = AW d 164 236 [.ref v, x1] (.ref v :: st) σ ρ g τ Q := aw_lc m164 d164_235 rfl rfl rfl
theorem s164_235n {d : Nat} {st : List Value} {σ : am_I} {ρ : am_R} {g : am_J} {τ : am_T} {Q : am_Q} {x1 : Value} : AW d 164 235 [.null, x1] (st) σ ρ g τ Q = AW d 164 236 [.null, x1] (.null :: st) σ ρ g τ Q := aw_lc m164 d164_235 rfl rfl rfl
theorem d164_236 : decode cX12_init 236 = .ok (.bipush 6, 2) := by decide +kernel
theorem s164_236 {d : Nat} {st : List Value} {σ : am_I} {ρ : am_R} {g : am_J} {τ : am_T} {Q : am_Q} {x0 x1 : Value} : AW d 164 236 [x0, x1] (st) σ ρ g τ Q = AW d 164 238 [x0, x1] (.int 6 :: st) σ ρ g τ Q := aw_lc m164 d164_236 rfl rfl rfl
theorem d164_238 : decode cX12_init 238 = .ok (.newarray .int, 2) := by decide +kernel
theorem s164_238 {d : Nat} {st : List Value} {σ : am_I} {ρ : am_R} {g : am_J} {τ : am_T} {Q : am_Q} {x0 x1 : Value} {j : Int32} (hj : ¬ j < 0 ∧ j.toNatClampNeg ≤ 10000) : AW d 164 238 [x0, x1] (.int j :: st) σ ρ g τ Q = AW d 164 240 [x0, x1] (.ref τ.2.2.1 :: st) (am_new 15 j.toNatClampNeg σ ρ g τ).1 (am_new 15 j.toNatClampNeg σ ρ g τ).2.1 (am_new 15 j.toNatClampNeg σ ρ g τ).2.2.1 (am_new 15 j.toNatClampNeg σ ρ g τ).2.2.2 Q := aw_nwa m164 d164_238 rfl rfl (by decide) hj
theorem d164_240 : decode cX12_init 240 = .ok (.putfield 97, 3) := by decide +kernel
theorem s164_240 {d : Nat} {st : List Value} {σ : am_I} {ρ : am_R} {g : am_J} {τ : am_T} {Q : am_Q} {x0 x1 : Value} {a b : Nat} (ht : τ.1 a = 12) : AW d 164 240 [x0, x1] (.ref b :: .ref a :: st) σ ρ g τ Q = AW d 164 243 [x0, x1] (st) σ (am_u ρ a 29 (some b)) g τ Q := aw_pr m164 d164_240 rfl rfl (Or.inr ⟨rfl, rfl⟩) rfl ht
theorem s164_240n {d : Nat} {st : List Value} {σ : am_I} {ρ : am_R} {g : am_J} {τ : am_T} {Q : am_Q} {x0 x1 : Value} {a : Nat} (ht : τ.1 a = 12) : AW d 164 240 [x0, x1] (.null :: .ref a :: st) σ ρ g τ Q = AW d 164 243 [x0, x1] (st) σ (am_u ρ a 29 none) g τ Q := aw_pn m164 d164_240 rfl rfl (Or.inr ⟨rfl, rfl⟩) rfl ht
theorem d164_243 : decode cX12_init 243 = .ok (.aload_n 0, 1) := by decide +kernel
theorem s164_243 {d : Nat} {st : List Value} {σ : am_I} {ρ : am_R} {g : am_J} {τ : am_T} {Q : am_Q} {x1 : Value} {v : Nat} : AW d 164 243 [.ref v, x1] (st) σ ρ g τ Q = AW d 164 244 [.ref v, x1] (.ref v :: st) σ ρ g τ Q := aw_lc m164 d164_243 rfl rfl rfl
theorem s164_243n {d : Nat} {st : List Value} {σ : am_I} {ρ : am_R} {g : am_J} {τ : am_T} {Q : am_Q} {x1 : Value} : AW d 164 243 [.null, x1] (st) σ ρ g τ Q = AW d 164 244 [.null, x1] (.null :: st) σ ρ g τ Q := aw_lc m164 d164_243 rfl rfl rfl
theorem d164_244 : decode cX12_init 244 = .ok (.bipush 20, 2) := by decide +kernel
theorem s164_244 {d : Nat} {st : List Value} {σ : am_I} {ρ : am_R} {g : am_J} {τ : am_T} {Q : am_Q} {x0 x1 : Value} : AW d 164 244 [x0, x1] (st) σ ρ g τ Q = AW d 164 246 [x0, x1] (.int 20 :: st) σ ρ g τ Q := aw_lc m164 d164_244 rfl rfl rfl
theorem d164_246 : decode cX12_init 246 = .ok (.newarray .int, 2) := by decide +kernel
theorem s164_246 {d : Nat} {st : List Value} {σ : am_I} {ρ : am_R} {g : am_J} {τ : am_T} {Q : am_Q} {x0 x1 : Value} {j : Int32} (hj : ¬ j < 0 ∧ j.toNatClampNeg ≤ 10000) : AW d 164 246 [x0, x1] (.int j :: st) σ ρ g τ Q = AW d 164 248 [x0, x1] (.ref τ.2.2.1 :: st) (am_new 15 j.toNatClampNeg σ ρ g τ).1 (am_new 15 j.toNatClampNeg σ ρ g τ).2.1 (am_new 15 j.toNatClampNeg σ ρ g τ).2.2.1 (am_new 15 j.toNatClampNeg σ ρ g τ).2.2.2 Q := aw_nwa m164 d164_246 rfl rfl (by decide) hj
theorem d164_248 : decode cX12_init 248 = .ok (.putfield 100, 3) := by decide +kernel
theorem s164_248 {d : Nat} {st : List Value} {σ : am_I} {ρ : am_R} {g : am_J} {τ : am_T} {Q : am_Q} {x0 x1 : Value} {a b : Nat} (ht : τ.1 a = 12) : AW d 164 248 [x0, x1] (.ref b :: .ref a :: st) σ ρ g τ Q = AW d 164 251 [x0, x1] (st) σ (am_u ρ a 30 (some b)) g τ Q := aw_pr m164 d164_248 rfl rfl (Or.inr ⟨rfl, rfl⟩) rfl ht
theorem s164_248n {d : Nat} {st : List Value} {σ : am_I} {ρ : am_R} {g : am_J} {τ : am_T} {Q : am_Q} {x0 x1 : Value} {a : Nat} (ht : τ.1 a = 12) : AW d 164 248 [x0, x1] (.null :: .ref a :: st) σ ρ g τ Q = AW d 164 251 [x0, x1] (st) σ (am_u ρ a 30 none) g τ Q := aw_pn m164 d164_248 rfl rfl (Or.inr ⟨rfl, rfl⟩) rfl ht
theorem d164_251 : decode cX12_init 251 = .ok (.aload_n 0, 1) := by decide +kernel
theorem s164_251 {d : Nat} {st : List Value} {σ : am_I} {ρ : am_R} {g : am_J} {τ : am_T} {Q : am_Q} {x1 : Value} {v : Nat} : AW d 164 251 [.ref v, x1] (st) σ ρ g τ Q = AW d 164 252 [.ref v, x1] (.ref v :: st) σ ρ g τ Q := aw_lc m164 d164_251 rfl rfl rfl
theorem s164_251n {d : Nat} {st : List Value} {σ : am_I} {ρ : am_R} {g : am_J} {τ : am_T} {Q : am_Q} {x1 : Value} : AW d 164 251 [.null, x1] (st) σ ρ g τ Q = AW d 164 252 [.null, x1] (.null :: st) σ ρ g τ Q := aw_lc m164 d164_251 rfl rfl rfl
theorem d164_252 : decode cX12_init 252 = .ok (.bipush 20, 2) := by decide +kernel
theorem s164_252 {d : Nat} {st : List Value} {σ : am_I} {ρ : am_R} {g : am_J} {τ : am_T} {Q : am_Q} {x0 x1 : Value} : AW d 164 252 [x0, x1] (st) σ ρ g τ Q = AW d 164 254 [x0, x1] (.int 20 :: st) σ ρ g τ Q := aw_lc m164 d164_252 rfl rfl rfl
theorem d164_254 : decode cX12_init 254 = .ok (.newarray .int, 2) := by decide +kernel
theorem s164_254 {d : Nat} {st : List Value} {σ : am_I} {ρ : am_R} {g : am_J} {τ : am_T} {Q : am_Q} {x0 x1 : Value} {j : Int32} (hj : ¬ j < 0 ∧ j.toNatClampNeg ≤ 10000) : AW d 164 254 [x0, x1] (.int j :: st) σ ρ g τ Q = AW d 164 256 [x0, x1] (.ref τ.2.2.1 :: st) (am_new 15 j.toNatClampNeg σ ρ g τ).1 (am_new 15 j.toNatClampNeg σ ρ g τ).2.1 (am_new 15 j.toNatClampNeg σ ρ g τ).2.2.1 (am_new 15 j.toNatClampNeg σ ρ g τ).2.2.2 Q := aw_nwa m164 d164_254 rfl rfl (by decide) hj
theorem d164_256 : decode cX12_init 256 = .ok (.putfield 103, 3) := by decide +kernel
theorem s164_256 {d : Nat} {st : List Value} {σ : am_I} {ρ : am_R} {g : am_J} {τ : am_T} {Q : am_Q} {x0 x1 : Value} {a b : Nat} (ht : τ.1 a = 12) : AW d 164 256 [x0, x1] (.ref b :: .ref a :: st) σ ρ g τ Q = AW d 164 259 [x0, x1] (st) σ (am_u ρ a 31 (some b)) g τ Q := aw_pr m164 d164_256 rfl rfl (Or.inr ⟨rfl, rfl⟩) rfl ht
theorem s164_256n {d : Nat} {st : List Value} {σ : am_I} {ρ : am_R} {g : am_J} {τ : am_T} {Q : am_Q} {x0 x1 : Value} {a : Nat} (ht : τ.1 a = 12) : AW d 164 256 [x0, x1] (.null :: .ref a :: st) σ ρ g τ Q = AW d 164 259 [x0, x1] (st) σ (am_u ρ a 31 none) g τ Q := aw_pn m164 d164_256 rfl rfl (Or.inr ⟨rfl, rfl⟩) rfl ht
theorem d164_259 : decode cX12_init 259 = .ok (.aload_n 0, 1) := by decide +kernel
theorem s164_259 {d : Nat} {st : List Value} {σ : am_I} {ρ : am_R} {g : am_J} {τ : am_T} {Q : am_Q} {x1 : Value} {v : Nat} : AW d 164 259 [.ref v, x1] (st) σ ρ g τ Q = AW d 164 260 [.ref v, x1] (.ref v :: st) σ ρ g τ Q := aw_lc m164 d164_259 rfl rfl rfl
theorem s164_259n {d : Nat} {st : List Value} {σ : am_I} {ρ : am_R} {g : am_J} {τ : am_T} {Q : am_Q} {x1 : Value} : AW d 164 259 [.null, x1] (st) σ ρ g τ Q = AW d 164 260 [.null, x1] (.null :: st) σ ρ g τ Q := aw_lc m164 d164_259 rfl rfl rfl
theorem d164_260 : decode cX12_init 260 = .ok (.bipush 20, 2) := by decide +kernel
theorem s164_260 {d : Nat} {st : List Value} {σ : am_I} {ρ : am_R} {g : am_J} {τ : am_T} {Q : am_Q} {x0 x1 : Value} : AW d 164 260 [x0, x1] (st) σ ρ g τ Q = AW d 164 262 [x0, x1] (.int 20 :: st) σ ρ g τ Q := aw_lc m164 d164_260 rfl rfl rfl
theorem d164_262 : decode cX12_init 262 = .ok (.newarray .int, 2) := by decide +kernel
theorem s164_262 {d : Nat} {st : List Value} {σ : am_I} {ρ : am_R} {g : am_J} {τ : am_T} {Q : am_Q} {x0 x1 : Value} {j : Int32} (hj : ¬ j < 0 ∧ j.toNatClampNeg ≤ 10000) : AW d 164 262 [x0, x1] (.int j :: st) σ ρ g τ Q = AW d 164 264 [x0, x1] (.ref τ.2.2.1 :: st) (am_new 15 j.toNatClampNeg σ ρ g τ).1 (am_new 15 j.toNatClampNeg σ ρ g τ).2.1 (am_new 15 j.toNatClampNeg σ ρ g τ).2.2.1 (am_new 15 j.toNatClampNeg σ ρ g τ).2.2.2 Q := aw_nwa m164 d164_262 rfl rfl (by decide) hj
theorem d164_264 : decode cX12_init 264 = .ok (.putfield 106, 3) := by decide +kernel
theorem s164_264 {d : Nat} {st : List Value} {σ : am_I} {ρ : am_R} {g : am_J} {τ : am_T} {Q : am_Q} {x0 x1 : Value} {a b : Nat} (ht : τ.1 a = 12) : AW d 164 264 [x0, x1] (.ref b :: .ref a :: st) σ ρ g τ Q = AW d 164 267 [x0, x1] (st) σ (am_u ρ a 32 (some b)) g τ Q := aw_pr m164 d164_264 rfl rfl (Or.inr ⟨rfl, rfl⟩) rfl ht
theorem s164_264n {d : Nat} {st : List Value} {σ : am_I} {ρ : am_R} {g : am_J} {τ : am_T} {Q : am_Q} {x0 x1 : Value} {a : Nat} (ht : τ.1 a = 12) : AW d 164 264 [x0, x1] (.null :: .ref a :: st) σ ρ g τ Q = AW d 164 267 [x0, x1] (st) σ (am_u ρ a 32 none) g τ Q := aw_pn m164 d164_264 rfl rfl (Or.inr ⟨rfl, rfl⟩) rfl ht
theorem d164_267 : decode cX12_init 267 = .ok (.aload_n 0, 1) := by decide +kernel
theorem s164_267 {d : Nat} {st : List Value} {σ : am_I} {ρ : am_R} {g : am_J} {τ : am_T} {Q : am_Q} {x1 : Value} {v : Nat} : AW d 164 267 [.ref v, x1] (st) σ ρ g τ Q = AW d 164 268 [.ref v, x1] (.ref v :: st) σ ρ g τ Q := aw_lc m164 d164_267 rfl rfl rfl
theorem s164_267n {d : Nat} {st : List Value} {σ : am_I} {ρ : am_R} {g : am_J} {τ : am_T} {Q : am_Q} {x1 : Value} : AW d 164 267 [.null, x1] (st) σ ρ g τ Q = AW d 164 268 [.null, x1] (.null :: st) σ ρ g τ Q := aw_lc m164 d164_267 rfl rfl rfl
theorem d164_268 : decode cX12_init 268 = .ok (.bipush 20, 2) := by decide +kernel
theorem s164_268 {d : Nat} {st : List Value} {σ : am_I} {ρ : am_R} {g : am_J} {τ : am_T} {Q : am_Q} {x0 x1 : Value} : AW d 164 268 [x0, x1] (st) σ ρ g τ Q = AW d 164 270 [x0, x1] (.int 20 :: st) σ ρ g τ Q := aw_lc m164 d164_268 rfl rfl rfl
theorem d164_270 : decode cX12_init 270 = .ok (.newarray .int, 2) := by decide +kernel
theorem s164_270 {d : Nat} {st : List Value} {σ : am_I} {ρ : am_R} {g : am_J} {τ : am_T} {Q : am_Q} {x0 x1 : Value} {j : Int32} (hj : ¬ j < 0 ∧ j.toNatClampNeg ≤ 10000) : AW d 164 270 [x0, x1] (.int j :: st) σ ρ g τ Q = AW d 164 272 [x0, x1] (.ref τ.2.2.1 :: st) (am_new 15 j.toNatClampNeg σ ρ g τ).1 (am_new 15 j.toNatClampNeg σ ρ g τ).2.1 (am_new 15 j.toNatClampNeg σ ρ g τ).2.2.1 (am_new 15 j.toNatClampNeg σ ρ g τ).2.2.2 Q := aw_nwa m164 d164_270 rfl rfl (by decide) hj
theorem d164_272 : decode cX12_init 272 = .ok (.putfield 109, 3) := by decide +kernel
theorem s164_272 {d : Nat} {st : List Value} {σ : am_I} {ρ : am_R} {g : am_J} {τ : am_T} {Q : am_Q} {x0 x1 : Value} {a b : Nat} (ht : τ.1 a = 12) : AW d 164 272 [x0, x1] (.ref b :: .ref a :: st) σ ρ g τ Q = AW d 164 275 [x0, x1] (st) σ (am_u ρ a 33 (some b)) g τ Q := aw_pr m164 d164_272 rfl rfl (Or.inr ⟨rfl, rfl⟩) rfl ht
theorem s164_272n {d : Nat} {st : List Value} {σ : am_I} {ρ : am_R} {g : am_J} {τ : am_T} {Q : am_Q} {x0 x1 : Value} {a : Nat} (ht : τ.1 a = 12) : AW d 164 272 [x0, x1] (.null :: .ref a :: st) σ ρ g τ Q = AW d 164 275 [x0, x1] (st) σ (am_u ρ a 33 none) g τ Q := aw_pn m164 d164_272 rfl rfl (Or.inr ⟨rfl, rfl⟩) rfl ht
theorem d164_275 : decode cX12_init 275 = .ok (.aload_n 0, 1) := by decide +kernel
theorem s164_275 {d : Nat} {st : List Value} {σ : am_I} {ρ : am_R} {g : am_J} {τ : am_T} {Q : am_Q} {x1 : Value} {v : Nat} : AW d 164 275 [.ref v, x1] (st) σ ρ g τ Q = AW d 164 276 [.ref v, x1] (.ref v :: st) σ ρ g τ Q := aw_lc m164 d164_275 rfl rfl rfl
theorem s164_275n {d : Nat} {st : List Value} {σ : am_I} {ρ : am_R} {g : am_J} {τ : am_T} {Q : am_Q} {x1 : Value} : AW d 164 275 [.null, x1] (st) σ ρ g τ Q = AW d 164 276 [.null, x1] (.null :: st) σ ρ g τ Q := aw_lc m164 d164_275 rfl rfl rfl
theorem d164_276 : decode cX12_init 276 = .ok (.bipush 20, 2) := by decide +kernel
theorem s164_276 {d : Nat} {st : List Value} {σ : am_I} {ρ : am_R} {g : am_J} {τ : am_T} {Q : am_Q} {x0 x1 : Value} : AW d 164 276 [x0, x1] (st) σ ρ g τ Q = AW d 164 278 [x0, x1] (.int 20 :: st) σ ρ g τ Q := aw_lc m164 d164_276 rfl rfl rfl
theorem d164_278 : decode cX12_init 278 = .ok (.newarray .int, 2) := by decide +kernel
theorem s164_278 {d : Nat} {st : List Value} {σ : am_I} {ρ : am_R} {g : am_J} {τ : am_T} {Q : am_Q} {x0 x1 : Value} {j : Int32} (hj : ¬ j < 0 ∧ j.toNatClampNeg ≤ 10000) : AW d 164 278 [x0, x1] (.int j :: st) σ ρ g τ Q = AW d 164 280 [x0, x1] (.ref τ.2.2.1 :: st) (am_new 15 j.toNatClampNeg σ ρ g τ).1 (am_new 15 j.toNatClampNeg σ ρ g τ).2.1 (am_new 15 j.toNatClampNeg σ ρ g τ).2.2.1 (am_new 15 j.toNatClampNeg σ ρ g τ).2.2.2 Q := aw_nwa m164 d164_278 rfl rfl (by decide) hj
theorem d164_280 : decode cX12_init 280 = .ok (.putfield 112, 3) := by decide +kernel
theorem s164_280 {d : Nat} {st : List Value} {σ : am_I} {ρ : am_R} {g : am_J} {τ : am_T} {Q : am_Q} {x0 x1 : Value} {a b : Nat} (ht : τ.1 a = 12) : AW d 164 280 [x0, x1] (.ref b :: .ref a :: st) σ ρ g τ Q = AW d 164 283 [x0, x1] (st) σ (am_u ρ a 34 (some b)) g τ Q := aw_pr m164 d164_280 rfl rfl (Or.inr ⟨rfl, rfl⟩) rfl ht
theorem s164_280n {d : Nat} {st : List Value} {σ : am_I} {ρ : am_R} {g : am_J} {τ : am_T} {Q : am_Q} {x0 x1 : Value} {a : Nat} (ht : τ.1 a = 12) : AW d 164 280 [x0, x1] (.null :: .ref a :: st) σ ρ g τ Q = AW d 164 283 [x0, x1] (st) σ (am_u ρ a 34 none) g τ Q := aw_pn m164 d164_280 rfl rfl (Or.inr ⟨rfl, rfl⟩) rfl ht
theorem d164_283 : decode cX12_init 283 = .ok (.aload_n 0, 1) := by decide +kernel
theorem s164_283 {d : Nat} {st : List Value} {σ : am_I} {ρ : am_R} {g : am_J} {τ : am_T} {Q : am_Q} {x1 : Value} {v : Nat} : AW d 164 283 [.ref v, x1] (st) σ ρ g τ Q = AW d 164 284 [.ref v, x1] (.ref v :: st) σ ρ g τ Q := aw_lc m164 d164_283 rfl rfl rfl
theorem s164_283n {d : Nat} {st : List Value} {σ : am_I} {ρ : am_R} {g : am_J} {τ : am_T} {Q : am_Q} {x1 : Value} : AW d 164 283 [.null, x1] (st) σ ρ g τ Q = AW d 164 284 [.null, x1] (.null :: st) σ ρ g τ Q := aw_lc m164 d164_283 rfl rfl rfl
theorem d164_284 : decode cX12_init 284 = .ok (.bipush 16, 2) := by decide +kernel
theorem s164_284 {d : Nat} {st : List Value} {σ : am_I} {ρ : am_R} {g : am_J} {τ : am_T} {Q : am_Q} {x0 x1 : Value} : AW d 164 284 [x0, x1] (st) σ ρ g τ Q = AW d 164 286 [x0, x1] (.int 16 :: st) σ ρ g τ Q := aw_lc m164 d164_284 rfl rfl rfl
theorem d164_286 : decode cX12_init 286 = .ok (.newarray .int, 2) := by decide +kernel
theorem s164_286 {d : Nat} {st : List Value} {σ : am_I} {ρ : am_R} {g : am_J} {τ : am_T} {Q : am_Q} {x0 x1 : Value} {j : Int32} (hj : ¬ j < 0 ∧ j.toNatClampNeg ≤ 10000) : AW d 164 286 [x0, x1] (.int j :: st) σ ρ g τ Q = AW d 164 288 [x0, x1] (.ref τ.2.2.1 :: st) (am_new 15 j.toNatClampNeg σ ρ g τ).1 (am_new 15 j.toNatClampNeg σ ρ g τ).2.1 (am_new 15 j.toNatClampNeg σ ρ g τ).2.2.1 (am_new 15 j.toNatClampNeg σ ρ g τ).2.2.2 Q := aw_nwa m164 d164_286 rfl rfl (by decide) hj
theorem d164_288 : decode cX12_init 288 = .ok (.putfield 115, 3) := by decide +kernel
theorem s164_288 {d : Nat} {st : List Value} {σ : am_I} {ρ : am_R} {g : am_J} {τ : am_T} {Q : am_Q} {x0 x1 : Value} {a b : Nat} (ht : τ.1 a = 12) : AW d 164 288 [x0, x1] (.ref b :: .ref a :: st) σ ρ g τ Q = AW d 164 291 [x0, x1] (st) σ (am_u ρ a 35 (some b)) g τ Q := aw_pr m164 d164_288 rfl rfl (Or.inr ⟨rfl, rfl⟩) rfl ht
theorem s164_288n {d : Nat} {st : List Value} {σ : am_I} {ρ : am_R} {g : am_J} {τ : am_T} {Q : am_Q} {x0 x1 : Value} {a : Nat} (ht : τ.1 a = 12) : AW d 164 288 [x0, x1] (.null :: .ref a :: st) σ ρ g τ Q = AW d 164 291 [x0, x1] (st) σ (am_u ρ a 35 none) g τ Q := aw_pn m164 d164_288 rfl rfl (Or.inr ⟨rfl, rfl⟩) rfl ht
theorem d164_291 : decode cX12_init 291 = .ok (.aload_n 0, 1) := by decide +kernel
theorem s164_291 {d : Nat} {st : List Value} {σ : am_I} {ρ : am_R} {g : am_J} {τ : am_T} {Q : am_Q} {x1 : Value} {v : Nat} : AW d 164 291 [.ref v, x1] (st) σ ρ g τ Q = AW d 164 292 [.ref v, x1] (.ref v :: st) σ ρ g τ Q := aw_lc m164 d164_291 rfl rfl rfl
theorem s164_291n {d : Nat} {st : List Value} {σ : am_I} {ρ : am_R} {g : am_J} {τ : am_T} {Q : am_Q} {x1 : Value} : AW d 164 291 [.null, x1] (st) σ ρ g τ Q = AW d 164 292 [.null, x1] (.null :: st) σ ρ g τ Q := aw_lc m164 d164_291 rfl rfl rfl
theorem d164_292 : decode cX12_init 292 = .ok (.bipush 16, 2) := by decide +kernel
theorem s164_292 {d : Nat} {st : List Value} {σ : am_I} {ρ : am_R} {g : am_J} {τ : am_T} {Q : am_Q} {x0 x1 : Value} : AW d 164 292 [x0, x1] (st) σ ρ g τ Q = AW d 164 294 [x0, x1] (.int 16 :: st) σ ρ g τ Q := aw_lc m164 d164_292 rfl rfl rfl
theorem d164_294 : decode cX12_init 294 = .ok (.newarray .int, 2) := by decide +kernel
theorem s164_294 {d : Nat} {st : List Value} {σ : am_I} {ρ : am_R} {g : am_J} {τ : am_T} {Q : am_Q} {x0 x1 : Value} {j : Int32} (hj : ¬ j < 0 ∧ j.toNatClampNeg ≤ 10000) : AW d 164 294 [x0, x1] (.int j :: st) σ ρ g τ Q = AW d 164 296 [x0, x1] (.ref τ.2.2.1 :: st) (am_new 15 j.toNatClampNeg σ ρ g τ).1 (am_new 15 j.toNatClampNeg σ ρ g τ).2.1 (am_new 15 j.toNatClampNeg σ ρ g τ).2.2.1 (am_new 15 j.toNatClampNeg σ ρ g τ).2.2.2 Q := aw_nwa m164 d164_294 rfl rfl (by decide) hj
theorem d164_296 : decode cX12_init 296 = .ok (.putfield 118, 3) := by decide +kernel
theorem s164_296 {d : Nat} {st : List Value} {σ : am_I} {ρ : am_R} {g : am_J} {τ : am_T} {Q : am_Q} {x0 x1 : Value} {a b : Nat} (ht : τ.1 a = 12) : AW d 164 296 [x0, x1] (.ref b :: .ref a :: st) σ ρ g τ Q = AW d 164 299 [x0, x1] (st) σ (am_u ρ a 36 (some b)) g τ Q := aw_pr m164 d164_296 rfl rfl (Or.inr ⟨rfl, rfl⟩) rfl ht
theorem s164_296n {d : Nat} {st : List Value} {σ : am_I} {ρ : am_R} {g : am_J} {τ : am_T} {Q : am_Q} {x0 x1 : Value} {a : Nat} (ht : τ.1 a = 12) : AW d 164 296 [x0, x1] (.null :: .ref a :: st) σ ρ g τ Q = AW d 164 299 [x0, x1] (st) σ (am_u ρ a 36 none) g τ Q := aw_pn m164 d164_296 rfl rfl (Or.inr ⟨rfl, rfl⟩) rfl ht
theorem d164_299 : decode cX12_init 299 = .ok (.aload_n 0, 1) := by decide +kernel
theorem s164_299 {d : Nat} {st : List Value} {σ : am_I} {ρ : am_R} {g : am_J} {τ : am_T} {Q : am_Q} {x1 : Value} {v : Nat} : AW d 164 299 [.ref v, x1] (st) σ ρ g τ Q = AW d 164 300 [.ref v, x1] (.ref v :: st) σ ρ g τ Q := aw_lc m164 d164_299 rfl rfl rfl
theorem s164_299n {d : Nat} {st : List Value} {σ : am_I} {ρ : am_R} {g : am_J} {τ : am_T} {Q : am_Q} {x1 : Value} : AW d 164 299 [.null, x1] (st) σ ρ g τ Q = AW d 164 300 [.null, x1] (.null :: st) σ ρ g τ Q := aw_lc m164 d164_299 rfl rfl rfl
theorem d164_300 : decode cX12_init 300 = .ok (.bipush 16, 2) := by decide +kernel
theorem s164_300 {d : Nat} {st : List Value} {σ : am_I} {ρ : am_R} {g : am_J} {τ : am_T} {Q : am_Q} {x0 x1 : Value} : AW d 164 300 [x0, x1] (st) σ ρ g τ Q = AW d 164 302 [x0, x1] (.int 16 :: st) σ ρ g τ Q := aw_lc m164 d164_300 rfl rfl rfl
theorem d164_302 : decode cX12_init 302 = .ok (.newarray .int, 2) := by decide +kernel
theorem s164_302 {d : Nat} {st : List Value} {σ : am_I} {ρ : am_R} {g : am_J} {τ : am_T} {Q : am_Q} {x0 x1 : Value} {j : Int32} (hj : ¬ j < 0 ∧ j.toNatClampNeg ≤ 10000) : AW d 164 302 [x0, x1] (.int j :: st) σ ρ g τ Q = AW d 164 304 [x0, x1] (.ref τ.2.2.1 :: st) (am_new 15 j.toNatClampNeg σ ρ g τ).1 (am_new 15 j.toNatClampNeg σ ρ g τ).2.1 (am_new 15 j.toNatClampNeg σ ρ g τ).2.2.1 (am_new 15 j.toNatClampNeg σ ρ g τ).2.2.2 Q := aw_nwa m164 d164_302 rfl rfl (by decide) hj
theorem d164_304 : decode cX12_init 304 = .ok (.putfield 121, 3) := by decide +kernel
theorem s164_304 {d : Nat} {st : List Value} {σ : am_I} {ρ : am_R} {g : am_J} {τ : am_T} {Q : am_Q} {x0 x1 : Value} {a b : Nat} (ht : τ.1 a = 12) : AW d 164 304 [x0, x1] (.ref b :: .ref a :: st) σ ρ g τ Q = AW d 164 307 [x0, x1] (st) σ (am_u ρ a 37 (some b)) g τ Q := aw_pr m164 d164_304 rfl rfl (Or.inr ⟨rfl, rfl⟩) rfl ht
theorem s164_304n {d : Nat} {st : List Value} {σ : am_I} {ρ : am_R} {g : am_J} {τ : am_T} {Q : am_Q} {x0 x1 : Value} {a : Nat} (ht : τ.1 a = 12) : AW d 164 304 [x0, x1] (.null :: .ref a :: st) σ ρ g τ Q = AW d 164 307 [x0, x1] (st) σ (am_u ρ a 37 none) g τ Q := aw_pn m164 d164_304 rfl rfl (Or.inr ⟨rfl, rfl⟩) rfl ht
theorem d164_307 : decode cX12_init 307 = .ok (.aload_n 0, 1) := by decide +kernel
theorem s164_307 {d : Nat} {st : List Value} {σ : am_I} {ρ : am_R} {g : am_J} {τ : am_T} {Q : am_Q} {x1 : Value} {v : Nat} : AW d 164 307 [.ref v, x1] (st) σ ρ g τ Q = AW d 164 308 [.ref v, x1] (.ref v :: st) σ ρ g τ Q := aw_lc m164 d164_307 rfl rfl rfl
theorem s164_307n {d : Nat} {st : List Value} {σ : am_I} {ρ : am_R} {g : am_J} {τ : am_T} {Q : am_Q} {x1 : Value} : AW d 164 307 [.null, x1] (st) σ ρ g τ Q = AW d 164 308 [.null, x1] (.null :: st) σ ρ g τ Q := aw_lc m164 d164_307 rfl rfl rfl
theorem d164_308 : decode cX12_init 308 = .ok (.bipush 24, 2) := by decide +kernel
theorem s164_308 {d : Nat} {st : List Value} {σ : am_I} {ρ : am_R} {g : am_J} {τ : am_T} {Q : am_Q} {x0 x1 : Value} : AW d 164 308 [x0, x1] (st) σ ρ g τ Q = AW d 164 310 [x0, x1] (.int 24 :: st) σ ρ g τ Q := aw_lc m164 d164_308 rfl rfl rfl
theorem d164_310 : decode cX12_init 310 = .ok (.newarray .int, 2) := by decide +kernel
theorem s164_310 {d : Nat} {st : List Value} {σ : am_I} {ρ : am_R} {g : am_J} {τ : am_T} {Q : am_Q} {x0 x1 : Value} {j : Int32} (hj : ¬ j < 0 ∧ j.toNatClampNeg ≤ 10000) : AW d 164 310 [x0, x1] (.int j :: st) σ ρ g τ Q = AW d 164 312 [x0, x1] (.ref τ.2.2.1 :: st) (am_new 15 j.toNatClampNeg σ ρ g τ).1 (am_new 15 j.toNatClampNeg σ ρ g τ).2.1 (am_new 15 j.toNatClampNeg σ ρ g τ).2.2.1 (am_new 15 j.toNatClampNeg σ ρ g τ).2.2.2 Q := aw_nwa m164 d164_310 rfl rfl (by decide) hj
theorem d164_312 : decode cX12_init 312 = .ok (.putfield 124, 3) := by decide +kernel
theorem s164_312 {d : Nat} {st : List Value} {σ : am_I} {ρ : am_R} {g : am_J} {τ : am_T} {Q : am_Q} {x0 x1 : Value} {a b : Nat} (ht : τ.1 a = 12) : AW d 164 312 [x0, x1] (.ref b :: .ref a :: st) σ ρ g τ Q = AW d 164 315 [x0, x1] (st) σ (am_u ρ a 38 (some b)) g τ Q := aw_pr m164 d164_312 rfl rfl (Or.inr ⟨rfl, rfl⟩) rfl ht
theorem s164_312n {d : Nat} {st : List Value} {σ : am_I} {ρ : am_R} {g : am_J} {τ : am_T} {Q : am_Q} {x0 x1 : Value} {a : Nat} (ht : τ.1 a = 12) : AW d 164 312 [x0, x1] (.null :: .ref a :: st) σ ρ g τ Q = AW d 164 315 [x0, x1] (st) σ (am_u ρ a 38 none) g τ Q := aw_pn m164 d164_312 rfl rfl (Or.inr ⟨rfl, rfl⟩) rfl ht
theorem d164_315 : decode cX12_init 315 = .ok (.aload_n 0, 1) := by decide +kernel
theorem s164_315 {d : Nat} {st : List Value} {σ : am_I} {ρ : am_R} {g : am_J} {τ : am_T} {Q : am_Q} {x1 : Value} {v : Nat} : AW d 164 315 [.ref v, x1] (st) σ ρ g τ Q = AW d 164 316 [.ref v, x1] (.ref v :: st) σ ρ g τ Q := aw_lc m164 d164_315 rfl rfl rfl
theorem s164_315n {d : Nat} {st : List Value} {σ : am_I} {ρ : am_R} {g : am_J} {τ : am_T} {Q : am_Q} {x1 : Value} : AW d 164 315 [.null, x1] (st) σ ρ g τ Q = AW d 164 316 [.null, x1] (.null :: st) σ ρ g τ Q := aw_lc m164 d164_315 rfl rfl rfl
theorem d164_316 : decode cX12_init 316 = .ok (.bipush 8, 2) := by decide +kernel
theorem s164_316 {d : Nat} {st : List Value} {σ : am_I} {ρ : am_R} {g : am_J} {τ : am_T} {Q : am_Q} {x0 x1 : Value} : AW d 164 316 [x0, x1] (st) σ ρ g τ Q = AW d 164 318 [x0, x1] (.int 8 :: st) σ ρ g τ Q := aw_lc m164 d164_316 rfl rfl rfl
theorem d164_318 : decode cX12_init 318 = .ok (.newarray .int, 2) := by decide +kernel
theorem s164_318 {d : Nat} {st : List Value} {σ : am_I} {ρ : am_R} {g : am_J} {τ : am_T} {Q : am_Q} {x0 x1 : Value} {j : Int32} (hj : ¬ j < 0 ∧ j.toNatClampNeg ≤ 10000) : AW d 164 318 [x0, x1] (.int j :: st) σ ρ g τ Q = AW d 164 320 [x0, x1] (.ref τ.2.2.1 :: st) (am_new 15 j.toNatClampNeg σ ρ g τ).1 (am_new 15 j.toNatClampNeg σ ρ g τ).2.1 (am_new 15 j.toNatClampNeg σ ρ g τ).2.2.1 (am_new 15 j.toNatClampNeg σ ρ g τ).2.2.2 Q := aw_nwa m164 d164_318 rfl rfl (by decide) hj
theorem d164_320 : decode cX12_init 320 = .ok (.putfield 127, 3) := by decide +kernel
theorem s164_320 {d : Nat} {st : List Value} {σ : am_I} {ρ : am_R} {g : am_J} {τ : am_T} {Q : am_Q} {x0 x1 : Value} {a b : Nat} (ht : τ.1 a = 12) : AW d 164 320 [x0, x1] (.ref b :: .ref a :: st) σ ρ g τ Q = AW d 164 323 [x0, x1] (st) σ (am_u ρ a 39 (some b)) g τ Q := aw_pr m164 d164_320 rfl rfl (Or.inr ⟨rfl, rfl⟩) rfl ht
theorem s164_320n {d : Nat} {st : List Value} {σ : am_I} {ρ : am_R} {g : am_J} {τ : am_T} {Q : am_Q} {x0 x1 : Value} {a : Nat} (ht : τ.1 a = 12) : AW d 164 320 [x0, x1] (.null :: .ref a :: st) σ ρ g τ Q = AW d 164 323 [x0, x1] (st) σ (am_u ρ a 39 none) g τ Q := aw_pn m164 d164_320 rfl rfl (Or.inr ⟨rfl, rfl⟩) rfl ht
theorem d164_323 : decode cX12_init 323 = .ok (.aload_n 0, 1) := by decide +kernel
theorem s164_323 {d : Nat} {st : List Value} {σ : am_I} {ρ : am_R} {g : am_J} {τ : am_T} {Q : am_Q} {x1 : Value} {v : Nat} : AW d 164 323 [.ref v, x1] (st) σ ρ g τ Q = AW d 164 324 [.ref v, x1] (.ref v :: st) σ ρ g τ Q := aw_lc m164 d164_323 rfl rfl rfl
theorem s164_323n {d : Nat} {st : List Value} {σ : am_I} {ρ : am_R} {g : am_J} {τ : am_T} {Q : am_Q} {x1 : Value} : AW d 164 323 [.null, x1] (st) σ ρ g τ Q = AW d 164 324 [.null, x1] (.null :: st) σ ρ g τ Q := aw_lc m164 d164_323 rfl rfl rfl
theorem d164_324 : decode cX12_init 324 = .ok (.bipush 40, 2) := by decide +kernel
theorem s164_324 {d : Nat} {st : List Value} {σ : am_I} {ρ : am_R} {g : am_J} {τ : am_T} {Q : am_Q} {x0 x1 : Value} : AW d 164 324 [x0, x1] (st) σ ρ g τ Q = AW d 164 326 [x0, x1] (.int 40 :: st) σ ρ g τ Q := aw_lc m164 d164_324 rfl rfl rfl
theorem d164_326 : decode cX12_init 326 = .ok (.anewarray 130, 3) := by decide +kernel
theorem s164_326 {d : Nat} {st : List Value} {σ : am_I} {ρ : am_R} {g : am_J} {τ : am_T} {Q : am_Q} {x0 x1 : Value} {j : Int32} (hj : ¬ j < 0 ∧ j.toNatClampNeg ≤ 10000) : AW d 164 326 [x0, x1] (.int j :: st) σ ρ g τ Q = AW d 164 329 [x0, x1] (.ref τ.2.2.1 :: st) (am_new 22 j.toNatClampNeg σ ρ g τ).1 (am_new 22 j.toNatClampNeg σ ρ g τ).2.1 (am_new 22 j.toNatClampNeg σ ρ g τ).2.2.1 (am_new 22 j.toNatClampNeg σ ρ g τ).2.2.2 Q := aw_anA m164 d164_326 rfl rfl hj
theorem d164_329 : decode cX12_init 329 = .ok (.dup, 1) := by decide +kernel
theorem s164_329 {d : Nat} {st : List Value} {σ : am_I} {ρ : am_R} {g : am_J} {τ : am_T} {Q : am_Q} {x0 x1 : Value} {v : Int32} : AW d 164 329 [x0, x1] (.int v :: st) σ ρ g τ Q = AW d 164 330 [x0, x1] (.int v :: .int v :: st) σ ρ g τ Q := aw_lc m164 d164_329 rfl rfl rfl
theorem s164_329r {d : Nat} {st : List Value} {σ : am_I} {ρ : am_R} {g : am_J} {τ : am_T} {Q : am_Q} {x0 x1 : Value} {v : Nat} : AW d 164 329 [x0, x1] (.ref v :: st) σ ρ g τ Q = AW d 164 330 [x0, x1] (.ref v :: .ref v :: st) σ ρ g τ Q := aw_lc m164 d164_329 rfl rfl rfl
theorem d164_330 : decode cX12_init 330 = .ok (.iconst 0, 1) := by decide +kernel
theorem s164_330 {d : Nat} {st : List Value} {σ : am_I} {ρ : am_R} {g : am_J} {τ : am_T} {Q : am_Q} {x0 x1 : Value} : AW d 164 330 [x0, x1] (st) σ ρ g τ Q = AW d 164 331 [x0, x1] (.int 0 :: st) σ ρ g τ Q := aw_lc m164 d164_330 rfl rfl rfl
theorem d164_331 : decode cX12_init 331 = .ok (.aload_n 0, 1) := by decide +kernel
theorem s164_331 {d : Nat} {st : List Value} {σ : am_I} {ρ : am_R} {g : am_J} {τ : am_T} {Q : am_Q} {x1 : Value} {v : Nat} : AW d 164 331 [.ref v, x1] (st) σ ρ g τ Q = AW d 164 332 [.ref v, x1] (.ref v :: st) σ ρ g τ Q := aw_lc m164 d164_331 rfl rfl rfl
theorem s164_331n {d : Nat} {st : List Value} {σ : am_I} {ρ : am_R} {g : am_J} {τ : am_T} {Q : am_Q} {x1 : Value} : AW d 164 331 [.null, x1] (st) σ ρ g τ Q = AW d 164 332 [.null, x1] (.null :: st) σ ρ g τ Q := aw_lc m164 d164_331 rfl rfl rfl
theorem d164_332 : decode cX12_init 332 = .ok (.getfield 9, 3) := by decide +kernel
theorem s164_332 {d : Nat} {st : List Value} {σ : am_I} {ρ : am_R} {g : am_J} {τ : am_T} {Q : am_Q} {x0 x1 : Value} {a : Nat} (ht : τ.1 a = 12) : AW d 164 332 [x0, x1] (.ref a :: st) σ ρ g τ Q = AW d 164 335 [x0, x1] (va_rf (ρ a 0) :: st) σ ρ g τ Q := aw_gr m164 d164_332 rfl rfl rfl ht
theorem d164_335 : decode cX12_init 335 = .ok (.aastore, 1) := by decide +kernel
theorem s164_335 {d : Nat} {st : List Value} {σ : am_I} {ρ : am_R} {g : am_J} {τ : am_T} {Q : am_Q} {x0 x1 : Value} {a b : Nat} {j : Int32} (ht : 18 ≤ τ.1 a ∧ τ.1 a ≤ 22) (hj : am_inb j (τ.2.1 a) = true) (hb : τ.1 b = am_elK (τ.1 a)) (hb2 : b < am_BG) : AW d 164 335 [x0, x1] (.ref b :: .int j :: .ref a :: st) σ ρ g τ Q = AW d 164 336 [x0, x1] (st) σ (am_u ρ a j.toNatClampNeg (some b)) g τ Q := aw_aas m164 d164_335 rfl ht hj hb hb2
theorem d164_336 : decode cX12_init 336 = .ok (.dup, 1) := by decide +kernel
theorem s164_336 {d : Nat} {st : List Value} {σ : am_I} {ρ : am_R} {g : am_J} {τ : am_T} {Q : am_Q} {x0 x1 : Value} {v : Int32} : AW d 164 336 [x0, x1] (.int v :: st) σ ρ g τ Q = AW d 164 337 [x0, x1] (.int v :: .int v :: st) σ ρ g τ Q := aw_lc m164 d164_336 rfl rfl rfl
theorem s164_336r {d : Nat} {st : List Value} {σ : am_I} {ρ : am_R} {g : am_J} {τ : am_T} {Q : am_Q} {x0 x1 : Value} {v : Nat} : AW d 164 336 [x0, x1] (.ref v :: st) σ ρ g τ Q = AW d 164 337 [x0, x1] (.ref v :: .ref v :: st) σ ρ g τ Q := aw_lc m164 d164_336 rfl rfl rfl
theorem d164_337 : decode cX12_init 337 = .ok (.iconst 1, 1) := by decide +kernel
theorem s164_337 {d : Nat} {st : List Value} {σ : am_I} {ρ : am_R} {g : am_J} {τ : am_T} {Q : am_Q} {x0 x1 : Value} : AW d 164 337 [x0, x1] (st) σ ρ g τ Q = AW d 164 338 [x0, x1] (.int 1 :: st) σ ρ g τ Q := aw_lc m164 d164_337 rfl rfl rfl
theorem d164_338 : decode cX12_init 338 = .ok (.aload_n 0, 1) := by decide +kernel
theorem s164_338 {d : Nat} {st : List Value} {σ : am_I} {ρ : am_R} {g : am_J} {τ : am_T} {Q : am_Q} {x1 : Value} {v : Nat} : AW d 164 338 [.ref v, x1] (st) σ ρ g τ Q = AW d 164 339 [.ref v, x1] (.ref v :: st) σ ρ g τ Q := aw_lc m164 d164_338 rfl rfl rfl
theorem s164_338n {d : Nat} {st : List Value} {σ : am_I} {ρ : am_R} {g : am_J} {τ : am_T} {Q : am_Q} {x1 : Value} : AW d 164 338 [.null, x1] (st) σ ρ g τ Q = AW d 164 339 [.null, x1] (.null :: st) σ ρ g τ Q := aw_lc m164 d164_338 rfl rfl rfl
theorem d164_339 : decode cX12_init 339 = .ok (.getfield 13, 3) := by decide +kernel
theorem s164_339 {d : Nat} {st : List Value} {σ : am_I} {ρ : am_R} {g : am_J} {τ : am_T} {Q : am_Q} {x0 x1 : Value} {a : Nat} (ht : τ.1 a = 12) : AW d 164 339 [x0, x1] (.ref a :: st) σ ρ g τ Q = AW d 164 342 [x0, x1] (va_rf (ρ a 1) :: st) σ ρ g τ Q := aw_gr m164 d164_339 rfl rfl rfl ht
theorem d164_342 : decode cX12_init 342 = .ok (.aastore, 1) := by decide +kernel
theorem s164_342 {d : Nat} {st : List Value} {σ : am_I} {ρ : am_R} {g : am_J} {τ : am_T} {Q : am_Q} {x0 x1 : Value} {a b : Nat} {j : Int32} (ht : 18 ≤ τ.1 a ∧ τ.1 a ≤ 22) (hj : am_inb j (τ.2.1 a) = true) (hb : τ.1 b = am_elK (τ.1 a)) (hb2 : b < am_BG) : AW d 164 342 [x0, x1] (.ref b :: .int j :: .ref a :: st) σ ρ g τ Q = AW d 164 343 [x0, x1] (st) σ (am_u ρ a j.toNatClampNeg (some b)) g τ Q := aw_aas m164 d164_342 rfl ht hj hb hb2
theorem d164_343 : decode cX12_init 343 = .ok (.dup, 1) := by decide +kernel
theorem s164_343 {d : Nat} {st : List Value} {σ : am_I} {ρ : am_R} {g : am_J} {τ : am_T} {Q : am_Q} {x0 x1 : Value} {v : Int32} : AW d 164 343 [x0, x1] (.int v :: st) σ ρ g τ Q = AW d 164 344 [x0, x1] (.int v :: .int v :: st) σ ρ g τ Q := aw_lc m164 d164_343 rfl rfl rfl
theorem s164_343r {d : Nat} {st : List Value} {σ : am_I} {ρ : am_R} {g : am_J} {τ : am_T} {Q : am_Q} {x0 x1 : Value} {v : Nat} : AW d 164 343 [x0, x1] (.ref v :: st) σ ρ g τ Q = AW d 164 344 [x0, x1] (.ref v :: .ref v :: st) σ ρ g τ Q := aw_lc m164 d164_343 rfl rfl rfl
theorem d164_344 : decode cX12_init 344 = .ok (.iconst 2, 1) := by decide +kernel
theorem s164_344 {d : Nat} {st : List Value} {σ : am_I} {ρ : am_R} {g : am_J} {τ : am_T} {Q : am_Q} {x0 x1 : Value} : AW d 164 344 [x0, x1] (st) σ ρ g τ Q = AW d 164 345 [x0, x1] (.int 2 :: st) σ ρ g τ Q := aw_lc m164 d164_344 rfl rfl rfl
theorem d164_345 : decode cX12_init 345 = .ok (.aload_n 0, 1) := by decide +kernel
theorem s164_345 {d : Nat} {st : List Value} {σ : am_I} {ρ : am_R} {g : am_J} {τ : am_T} {Q : am_Q} {x1 : Value} {v : Nat} : AW d 164 345 [.ref v, x1] (st) σ ρ g τ Q = AW d 164 346 [.ref v, x1] (.ref v :: st) σ ρ g τ Q := aw_lc m164 d164_345 rfl rfl rfl
theorem s164_345n {d : Nat} {st : List Value} {σ : am_I} {ρ : am_R} {g : am_J} {τ : am_T} {Q : am_Q} {x1 : Value} : AW d 164 345 [.null, x1] (st) σ ρ g τ Q = AW d 164 346 [.null, x1] (.null :: st) σ ρ g τ Q := aw_lc m164 d164_345 rfl rfl rfl
theorem d164_346 : decode cX12_init 346 = .ok (.getfield 16, 3) := by decide +kernel
theorem s164_346 {d : Nat} {st : List Value} {σ : am_I} {ρ : am_R} {g : am_J} {τ : am_T} {Q : am_Q} {x0 x1 : Value} {a : Nat} (ht : τ.1 a = 12) : AW d 164 346 [x0, x1] (.ref a :: st) σ ρ g τ Q = AW d 164 349 [x0, x1] (va_rf (ρ a 2) :: st) σ ρ g τ Q := aw_gr m164 d164_346 rfl rfl rfl ht
theorem d164_349 : decode cX12_init 349 = .ok (.aastore, 1) := by decide +kernel
theorem s164_349 {d : Nat} {st : List Value} {σ : am_I} {ρ : am_R} {g : am_J} {τ : am_T} {Q : am_Q} {x0 x1 : Value} {a b : Nat} {j : Int32} (ht : 18 ≤ τ.1 a ∧ τ.1 a ≤ 22) (hj : am_inb j (τ.2.1 a) = true) (hb : τ.1 b = am_elK (τ.1 a)) (hb2 : b < am_BG) : AW d 164 349 [x0, x1] (.ref b :: .int j :: .ref a :: st) σ ρ g τ Q = AW d 164 350 [x0, x1] (st) σ (am_u ρ a j.toNatClampNeg (some b)) g τ Q := aw_aas m164 d164_349 rfl ht hj hb hb2
theorem d164_350 : decode cX12_init 350 = .ok (.dup, 1) := by decide +kernel
theorem s164_350 {d : Nat} {st : List Value} {σ : am_I} {ρ : am_R} {g : am_J} {τ : am_T} {Q : am_Q} {x0 x1 : Value} {v : Int32} : AW d 164 350 [x0, x1] (.int v :: st) σ ρ g τ Q = AW d 164 351 [x0, x1] (.int v :: .int v :: st) σ ρ g τ Q := aw_lc m164 d164_350 rfl rfl rfl
theorem s164_350r {d : Nat} {st : List Value} {σ : am_I} {ρ : am_R} {g : am_J} {τ : am_T} {Q : am_Q} {x0 x1 : Value} {v : Nat} : AW d 164 350 [x0, x1] (.ref v :: st) σ ρ g τ Q = AW d 164 351 [x0, x1] (.ref v :: .ref v :: st) σ ρ g τ Q := aw_lc m164 d164_350 rfl rfl rfl
theorem d164_351 : decode cX12_init 351 = .ok (.iconst 3, 1) := by decide +kernel
theorem s164_351 {d : Nat} {st : List Value} {σ : am_I} {ρ : am_R} {g : am_J} {τ : am_T} {Q : am_Q} {x0 x1 : Value} : AW d 164 351 [x0, x1] (st) σ ρ g τ Q = AW d 164 352 [x0, x1] (.int 3 :: st) σ ρ g τ Q := aw_lc m164 d164_351 rfl rfl rfl
theorem d164_352 : decode cX12_init 352 = .ok (.aload_n 0, 1) := by decide +kernel
theorem s164_352 {d : Nat} {st : List Value} {σ : am_I} {ρ : am_R} {g : am_J} {τ : am_T} {Q : am_Q} {x1 : Value} {v : Nat} : AW d 164 352 [.ref v, x1] (st) σ ρ g τ Q = AW d 164 353 [.ref v, x1] (.ref v :: st) σ ρ g τ Q := aw_lc m164 d164_352 rfl rfl rfl
theorem s164_352n {d : Nat} {st : List Value} {σ : am_I} {ρ : am_R} {g : am_J} {τ : am_T} {Q : am_Q} {x1 : Value} : AW d 164 352 [.null, x1] (st) σ ρ g τ Q = AW d 164 353 [.null, x1] (.null :: st) σ ρ g τ Q := aw_lc m164 d164_352 rfl rfl rfl
theorem d164_353 : decode cX12_init 353 = .ok (.getfield 19, 3) := by decide +kernel
theorem s164_353 {d : Nat} {st : List Value} {σ : am_I} {ρ : am_R} {g : am_J} {τ : am_T} {Q : am_Q} {x0 x1 : Value} {a : Nat} (ht : τ.1 a = 12) : AW d 164 353 [x0, x1] (.ref a :: st) σ ρ g τ Q = AW d 164 356 [x0, x1] (va_rf (ρ a 3) :: st) σ ρ g τ Q := aw_gr m164 d164_353 rfl rfl rfl ht
theorem d164_356 : decode cX12_init 356 = .ok (.aastore, 1) := by decide +kernel
theorem s164_356 {d : Nat} {st : List Value} {σ : am_I} {ρ : am_R} {g : am_J} {τ : am_T} {Q : am_Q} {x0 x1 : Value} {a b : Nat} {j : Int32} (ht : 18 ≤ τ.1 a ∧ τ.1 a ≤ 22) (hj : am_inb j (τ.2.1 a) = true) (hb : τ.1 b = am_elK (τ.1 a)) (hb2 : b < am_BG) : AW d 164 356 [x0, x1] (.ref b :: .int j :: .ref a :: st) σ ρ g τ Q = AW d 164 357 [x0, x1] (st) σ (am_u ρ a j.toNatClampNeg (some b)) g τ Q := aw_aas m164 d164_356 rfl ht hj hb hb2
theorem d164_357 : decode cX12_init 357 = .ok (.dup, 1) := by decide +kernel
theorem s164_357 {d : Nat} {st : List Value} {σ : am_I} {ρ : am_R} {g : am_J} {τ : am_T} {Q : am_Q} {x0 x1 : Value} {v : Int32} : AW d 164 357 [x0, x1] (.int v :: st) σ ρ g τ Q = AW d 164 358 [x0, x1] (.int v :: .int v :: st) σ ρ g τ Q := aw_lc m164 d164_357 rfl rfl rfl
theorem s164_357r {d : Nat} {st : List Value} {σ : am_I} {ρ : am_R} {g : am_J} {τ : am_T} {Q : am_Q} {x0 x1 : Value} {v : Nat} : AW d 164 357 [x0, x1] (.ref v :: st) σ ρ g τ Q = AW d 164 358 [x0, x1] (.ref v :: .ref v :: st) σ ρ g τ Q := aw_lc m164 d164_357 rfl rfl rfl
theorem d164_358 : decode cX12_init 358 = .ok (.iconst 4, 1) := by decide +kernel
theorem s164_358 {d : Nat} {st : List Value} {σ : am_I} {ρ : am_R} {g : am_J} {τ : am_T} {Q : am_Q} {x0 x1 : Value} : AW d 164 358 [x0, x1] (st) σ ρ g τ Q = AW d 164 359 [x0, x1] (.int 4 :: st) σ ρ g τ Q := aw_lc m164 d164_358 rfl rfl rfl
theorem d164_359 : decode cX12_init 359 = .ok (.aload_n 0, 1) := by decide +kernel
theorem s164_359 {d : Nat} {st : List Value} {σ : am_I} {ρ : am_R} {g : am_J} {τ : am_T} {Q : am_Q} {x1 : Value} {v : Nat} : AW d 164 359 [.ref v, x1] (st) σ ρ g τ Q = AW d 164 360 [.ref v, x1] (.ref v :: st) σ ρ g τ Q := aw_lc m164 d164_359 rfl rfl rfl
theorem s164_359n {d : Nat} {st : List Value} {σ : am_I} {ρ : am_R} {g : am_J} {τ : am_T} {Q : am_Q} {x1 : Value} : AW d 164 359 [.null, x1] (st) σ ρ g τ Q = AW d 164 360 [.null, x1] (.null :: st) σ ρ g τ Q := aw_lc m164 d164_359 rfl rfl rfl
theorem d164_360 : decode cX12_init 360 = .ok (.getfield 22, 3) := by decide +kernel
theorem s164_360 {d : Nat} {st : List Value} {σ : am_I} {ρ : am_R} {g : am_J} {τ : am_T} {Q : am_Q} {x0 x1 : Value} {a : Nat} (ht : τ.1 a = 12) : AW d 164 360 [x0, x1] (.ref a :: st) σ ρ g τ Q = AW d 164 363 [x0, x1] (va_rf (ρ a 4) :: st) σ ρ g τ Q := aw_gr m164 d164_360 rfl rfl rfl ht
theorem d164_363 : decode cX12_init 363 = .ok (.aastore, 1) := by decide +kernel
theorem s164_363 {d : Nat} {st : List Value} {σ : am_I} {ρ : am_R} {g : am_J} {τ : am_T} {Q : am_Q} {x0 x1 : Value} {a b : Nat} {j : Int32} (ht : 18 ≤ τ.1 a ∧ τ.1 a ≤ 22) (hj : am_inb j (τ.2.1 a) = true) (hb : τ.1 b = am_elK (τ.1 a)) (hb2 : b < am_BG) : AW d 164 363 [x0, x1] (.ref b :: .int j :: .ref a :: st) σ ρ g τ Q = AW d 164 364 [x0, x1] (st) σ (am_u ρ a j.toNatClampNeg (some b)) g τ Q := aw_aas m164 d164_363 rfl ht hj hb hb2
theorem d164_364 : decode cX12_init 364 = .ok (.dup, 1) := by decide +kernel
theorem s164_364 {d : Nat} {st : List Value} {σ : am_I} {ρ : am_R} {g : am_J} {τ : am_T} {Q : am_Q} {x0 x1 : Value} {v : Int32} : AW d 164 364 [x0, x1] (.int v :: st) σ ρ g τ Q = AW d 164 365 [x0, x1] (.int v :: .int v :: st) σ ρ g τ Q := aw_lc m164 d164_364 rfl rfl rfl
theorem s164_364r {d : Nat} {st : List Value} {σ : am_I} {ρ : am_R} {g : am_J} {τ : am_T} {Q : am_Q} {x0 x1 : Value} {v : Nat} : AW d 164 364 [x0, x1] (.ref v :: st) σ ρ g τ Q = AW d 164 365 [x0, x1] (.ref v :: .ref v :: st) σ ρ g τ Q := aw_lc m164 d164_364 rfl rfl rfl
theorem d164_365 : decode cX12_init 365 = .ok (.iconst 5, 1) := by decide +kernel
theorem s164_365 {d : Nat} {st : List Value} {σ : am_I} {ρ : am_R} {g : am_J} {τ : am_T} {Q : am_Q} {x0 x1 : Value} : AW d 164 365 [x0, x1] (st) σ ρ g τ Q = AW d 164 366 [x0, x1] (.int 5 :: st) σ ρ g τ Q := aw_lc m164 d164_365 rfl rfl rfl
theorem d164_366 : decode cX12_init 366 = .ok (.aload_n 0, 1) := by decide +kernel
theorem s164_366 {d : Nat} {st : List Value} {σ : am_I} {ρ : am_R} {g : am_J} {τ : am_T} {Q : am_Q} {x1 : Value} {v : Nat} : AW d 164 366 [.ref v, x1] (st) σ ρ g τ Q = AW d 164 367 [.ref v, x1] (.ref v :: st) σ ρ g τ Q := aw_lc m164 d164_366 rfl rfl rfl
theorem s164_366n {d : Nat} {st : List Value} {σ : am_I} {ρ : am_R} {g : am_J} {τ : am_T} {Q : am_Q} {x1 : Value} : AW d 164 366 [.null, x1] (st) σ ρ g τ Q = AW d 164 367 [.null, x1] (.null :: st) σ ρ g τ Q := aw_lc m164 d164_366 rfl rfl rfl
theorem d164_367 : decode cX12_init 367 = .ok (.getfield 25, 3) := by decide +kernel
theorem s164_367 {d : Nat} {st : List Value} {σ : am_I} {ρ : am_R} {g : am_J} {τ : am_T} {Q : am_Q} {x0 x1 : Value} {a : Nat} (ht : τ.1 a = 12) : AW d 164 367 [x0, x1] (.ref a :: st) σ ρ g τ Q = AW d 164 370 [x0, x1] (va_rf (ρ a 5) :: st) σ ρ g τ Q := aw_gr m164 d164_367 rfl rfl rfl ht
theorem d164_370 : decode cX12_init 370 = .ok (.aastore, 1) := by decide +kernel
theorem s164_370 {d : Nat} {st : List Value} {σ : am_I} {ρ : am_R} {g : am_J} {τ : am_T} {Q : am_Q} {x0 x1 : Value} {a b : Nat} {j : Int32} (ht : 18 ≤ τ.1 a ∧ τ.1 a ≤ 22) (hj : am_inb j (τ.2.1 a) = true) (hb : τ.1 b = am_elK (τ.1 a)) (hb2 : b < am_BG) : AW d 164 370 [x0, x1] (.ref b :: .int j :: .ref a :: st) σ ρ g τ Q = AW d 164 371 [x0, x1] (st) σ (am_u ρ a j.toNatClampNeg (some b)) g τ Q := aw_aas m164 d164_370 rfl ht hj hb hb2
theorem d164_371 : decode cX12_init 371 = .ok (.dup, 1) := by decide +kernel
theorem s164_371 {d : Nat} {st : List Value} {σ : am_I} {ρ : am_R} {g : am_J} {τ : am_T} {Q : am_Q} {x0 x1 : Value} {v : Int32} : AW d 164 371 [x0, x1] (.int v :: st) σ ρ g τ Q = AW d 164 372 [x0, x1] (.int v :: .int v :: st) σ ρ g τ Q := aw_lc m164 d164_371 rfl rfl rfl
theorem s164_371r {d : Nat} {st : List Value} {σ : am_I} {ρ : am_R} {g : am_J} {τ : am_T} {Q : am_Q} {x0 x1 : Value} {v : Nat} : AW d 164 371 [x0, x1] (.ref v :: st) σ ρ g τ Q = AW d 164 372 [x0, x1] (.ref v :: .ref v :: st) σ ρ g τ Q := aw_lc m164 d164_371 rfl rfl rfl
theorem d164_372 : decode cX12_init 372 = .ok (.bipush 6, 2) := by decide +kernel
theorem s164_372 {d : Nat} {st : List Value} {σ : am_I} {ρ : am_R} {g : am_J} {τ : am_T} {Q : am_Q} {x0 x1 : Value} : AW d 164 372 [x0, x1] (st) σ ρ g τ Q = AW d 164 374 [x0, x1] (.int 6 :: st) σ ρ g τ Q := aw_lc m164 d164_372 rfl rfl rfl
theorem d164_374 : decode cX12_init 374 = .ok (.aload_n 0, 1) := by decide +kernel
theorem s164_374 {d : Nat} {st : List Value} {σ : am_I} {ρ : am_R} {g : am_J} {τ : am_T} {Q : am_Q} {x1 : Value} {v : Nat} : AW d 164 374 [.ref v, x1] (st) σ ρ g τ Q = AW d 164 375 [.ref v, x1] (.ref v :: st) σ ρ g τ Q := aw_lc m164 d164_374 rfl rfl rfl
theorem s164_374n {d : Nat} {st : List Value} {σ : am_I} {ρ : am_R} {g : am_J} {τ : am_T} {Q : am_Q} {x1 : Value} : AW d 164 374 [.null, x1] (st) σ ρ g τ Q = AW d 164 375 [.null, x1] (.null :: st) σ ρ g τ Q := aw_lc m164 d164_374 rfl rfl rfl
theorem d164_375 : decode cX12_init 375 = .ok (.getfield 28, 3) := by decide +kernel
theorem s164_375 {d : Nat} {st : List Value} {σ : am_I} {ρ : am_R} {g : am_J} {τ : am_T} {Q : am_Q} {x0 x1 : Value} {a : Nat} (ht : τ.1 a = 12) : AW d 164 375 [x0, x1] (.ref a :: st) σ ρ g τ Q = AW d 164 378 [x0, x1] (va_rf (ρ a 6) :: st) σ ρ g τ Q := aw_gr m164 d164_375 rfl rfl rfl ht
theorem d164_378 : decode cX12_init 378 = .ok (.aastore, 1) := by decide +kernel
theorem s164_378 {d : Nat} {st : List Value} {σ : am_I} {ρ : am_R} {g : am_J} {τ : am_T} {Q : am_Q} {x0 x1 : Value} {a b : Nat} {j : Int32} (ht : 18 ≤ τ.1 a ∧ τ.1 a ≤ 22) (hj : am_inb j (τ.2.1 a) = true) (hb : τ.1 b = am_elK (τ.1 a)) (hb2 : b < am_BG) : AW d 164 378 [x0, x1] (.ref b :: .int j :: .ref a :: st) σ ρ g τ Q = AW d 164 379 [x0, x1] (st) σ (am_u ρ a j.toNatClampNeg (some b)) g τ Q := aw_aas m164 d164_378 rfl ht hj hb hb2
theorem d164_379 : decode cX12_init 379 = .ok (.dup, 1) := by decide +kernel
theorem s164_379 {d : Nat} {st : List Value} {σ : am_I} {ρ : am_R} {g : am_J} {τ : am_T} {Q : am_Q} {x0 x1 : Value} {v : Int32} : AW d 164 379 [x0, x1] (.int v :: st) σ ρ g τ Q = AW d 164 380 [x0, x1] (.int v :: .int v :: st) σ ρ g τ Q := aw_lc m164 d164_379 rfl rfl rfl
theorem s164_379r {d : Nat} {st : List Value} {σ : am_I} {ρ : am_R} {g : am_J} {τ : am_T} {Q : am_Q} {x0 x1 : Value} {v : Nat} : AW d 164 379 [x0, x1] (.ref v :: st) σ ρ g τ Q = AW d 164 380 [x0, x1] (.ref v :: .ref v :: st) σ ρ g τ Q := aw_lc m164 d164_379 rfl rfl rfl
theorem d164_380 : decode cX12_init 380 = .ok (.bipush 7, 2) := by decide +kernel
theorem s164_380 {d : Nat} {st : List Value} {σ : am_I} {ρ : am_R} {g : am_J} {τ : am_T} {Q : am_Q} {x0 x1 : Value} : AW d 164 380 [x0, x1] (st) σ ρ g τ Q = AW d 164 382 [x0, x1] (.int 7 :: st) σ ρ g τ Q := aw_lc m164 d164_380 rfl rfl rfl
theorem d164_382 : decode cX12_init 382 = .ok (.aload_n 0, 1) := by decide +kernel
theorem s164_382 {d : Nat} {st : List Value} {σ : am_I} {ρ : am_R} {g : am_J} {τ : am_T} {Q : am_Q} {x1 : Value} {v : Nat} : AW d 164 382 [.ref v, x1] (st) σ ρ g τ Q = AW d 164 383 [.ref v, x1] (.ref v :: st) σ ρ g τ Q := aw_lc m164 d164_382 rfl rfl rfl
theorem s164_382n {d : Nat} {st : List Value} {σ : am_I} {ρ : am_R} {g : am_J} {τ : am_T} {Q : am_Q} {x1 : Value} : AW d 164 382 [.null, x1] (st) σ ρ g τ Q = AW d 164 383 [.null, x1] (.null :: st) σ ρ g τ Q := aw_lc m164 d164_382 rfl rfl rfl
theorem d164_383 : decode cX12_init 383 = .ok (.getfield 31, 3) := by decide +kernel
theorem s164_383 {d : Nat} {st : List Value} {σ : am_I} {ρ : am_R} {g : am_J} {τ : am_T} {Q : am_Q} {x0 x1 : Value} {a : Nat} (ht : τ.1 a = 12) : AW d 164 383 [x0, x1] (.ref a :: st) σ ρ g τ Q = AW d 164 386 [x0, x1] (va_rf (ρ a 7) :: st) σ ρ g τ Q := aw_gr m164 d164_383 rfl rfl rfl ht
theorem d164_386 : decode cX12_init 386 = .ok (.aastore, 1) := by decide +kernel
theorem s164_386 {d : Nat} {st : List Value} {σ : am_I} {ρ : am_R} {g : am_J} {τ : am_T} {Q : am_Q} {x0 x1 : Value} {a b : Nat} {j : Int32} (ht : 18 ≤ τ.1 a ∧ τ.1 a ≤ 22) (hj : am_inb j (τ.2.1 a) = true) (hb : τ.1 b = am_elK (τ.1 a)) (hb2 : b < am_BG) : AW d 164 386 [x0, x1] (.ref b :: .int j :: .ref a :: st) σ ρ g τ Q = AW d 164 387 [x0, x1] (st) σ (am_u ρ a j.toNatClampNeg (some b)) g τ Q := aw_aas m164 d164_386 rfl ht hj hb hb2
theorem d164_387 : decode cX12_init 387 = .ok (.dup, 1) := by decide +kernel
theorem s164_387 {d : Nat} {st : List Value} {σ : am_I} {ρ : am_R} {g : am_J} {τ : am_T} {Q : am_Q} {x0 x1 : Value} {v : Int32} : AW d 164 387 [x0, x1] (.int v :: st) σ ρ g τ Q = AW d 164 388 [x0, x1] (.int v :: .int v :: st) σ ρ g τ Q := aw_lc m164 d164_387 rfl rfl rfl
theorem s164_387r {d : Nat} {st : List Value} {σ : am_I} {ρ : am_R} {g : am_J} {τ : am_T} {Q : am_Q} {x0 x1 : Value} {v : Nat} : AW d 164 387 [x0, x1] (.ref v :: st) σ ρ g τ Q = AW d 164 388 [x0, x1] (.ref v :: .ref v :: st) σ ρ g τ Q := aw_lc m164 d164_387 rfl rfl rfl
theorem d164_388 : decode cX12_init 388 = .ok (.bipush 8, 2) := by decide +kernel
theorem s164_388 {d : Nat} {st : List Value} {σ : am_I} {ρ : am_R} {g : am_J} {τ : am_T} {Q : am_Q} {x0 x1 : Value} : AW d 164 388 [x0, x1] (st) σ ρ g τ Q = AW d 164 390 [x0, x1] (.int 8 :: st) σ ρ g τ Q := aw_lc m164 d164_388 rfl rfl rfl
theorem d164_390 : decode cX12_init 390 = .ok (.aload_n 0, 1) := by decide +kernel
theorem s164_390 {d : Nat} {st : List Value} {σ : am_I} {ρ : am_R} {g : am_J} {τ : am_T} {Q : am_Q} {x1 : Value} {v : Nat} : AW d 164 390 [.ref v, x1] (st) σ ρ g τ Q = AW d 164 391 [.ref v, x1] (.ref v :: st) σ ρ g τ Q := aw_lc m164 d164_390 rfl rfl rfl
theorem s164_390n {d : Nat} {st : List Value} {σ : am_I} {ρ : am_R} {g : am_J} {τ : am_T} {Q : am_Q} {x1 : Value} : AW d 164 390 [.null, x1] (st) σ ρ g τ Q = AW d 164 391 [.null, x1] (.null :: st) σ ρ g τ Q := aw_lc m164 d164_390 rfl rfl rfl
theorem d164_391 : decode cX12_init 391 = .ok (.getfield 34, 3) := by decide +kernel
theorem s164_391 {d : Nat} {st : List Value} {σ : am_I} {ρ : am_R} {g : am_J} {τ : am_T} {Q : am_Q} {x0 x1 : Value} {a : Nat} (ht : τ.1 a = 12) : AW d 164 391 [x0, x1] (.ref a :: st) σ ρ g τ Q = AW d 164 394 [x0, x1] (va_rf (ρ a 8) :: st) σ ρ g τ Q := aw_gr m164 d164_391 rfl rfl rfl ht
theorem d164_394 : decode cX12_init 394 = .ok (.aastore, 1) := by decide +kernel
theorem s164_394 {d : Nat} {st : List Value} {σ : am_I} {ρ : am_R} {g : am_J} {τ : am_T} {Q : am_Q} {x0 x1 : Value} {a b : Nat} {j : Int32} (ht : 18 ≤ τ.1 a ∧ τ.1 a ≤ 22) (hj : am_inb j (τ.2.1 a) = true) (hb : τ.1 b = am_elK (τ.1 a)) (hb2 : b < am_BG) : AW d 164 394 [x0, x1] (.ref b :: .int j :: .ref a :: st) σ ρ g τ Q = AW d 164 395 [x0, x1] (st) σ (am_u ρ a j.toNatClampNeg (some b)) g τ Q := aw_aas m164 d164_394 rfl ht hj hb hb2
theorem d164_395 : decode cX12_init 395 = .ok (.dup, 1) := by decide +kernel
theorem s164_395 {d : Nat} {st : List Value} {σ : am_I} {ρ : am_R} {g : am_J} {τ : am_T} {Q : am_Q} {x0 x1 : Value} {v : Int32} : AW d 164 395 [x0, x1] (.int v :: st) σ ρ g τ Q = AW d 164 396 [x0, x1] (.int v :: .int v :: st) σ ρ g τ Q := aw_lc m164 d164_395 rfl rfl rfl
theorem s164_395r {d : Nat} {st : List Value} {σ : am_I} {ρ : am_R} {g : am_J} {τ : am_T} {Q : am_Q} {x0 x1 : Value} {v : Nat} : AW d 164 395 [x0, x1] (.ref v :: st) σ ρ g τ Q = AW d 164 396 [x0, x1] (.ref v :: .ref v :: st) σ ρ g τ Q := aw_lc m164 d164_395 rfl rfl rfl
theorem d164_396 : decode cX12_init 396 = .ok (.bipush 9, 2) := by decide +kernel
theorem s164_396 {d : Nat} {st : List Value} {σ : am_I} {ρ : am_R} {g : am_J} {τ : am_T} {Q : am_Q} {x0 x1 : Value} : AW d 164 396 [x0, x1] (st) σ ρ g τ Q = AW d 164 398 [x0, x1] (.int 9 :: st) σ ρ g τ Q := aw_lc m164 d164_396 rfl rfl rfl
theorem d164_398 : decode cX12_init 398 = .ok (.aload_n 0, 1) := by decide +kernel
theorem s164_398 {d : Nat} {st : List Value} {σ : am_I} {ρ : am_R} {g : am_J} {τ : am_T} {Q : am_Q} {x1 : Value} {v : Nat} : AW d 164 398 [.ref v, x1] (st) σ ρ g τ Q = AW d 164 399 [.ref v, x1] (.ref v :: st) σ ρ g τ Q := aw_lc m164 d164_398 rfl rfl rfl
theorem s164_398n {d : Nat} {st : List Value} {σ : am_I} {ρ : am_R} {g : am_J} {τ : am_T} {Q : am_Q} {x1 : Value} : AW d 164 398 [.null, x1] (st) σ ρ g τ Q = AW d 164 399 [.null, x1] (.null :: st) σ ρ g τ Q := aw_lc m164 d164_398 rfl rfl rfl
theorem d164_399 : decode cX12_init 399 = .ok (.getfield 37, 3) := by decide +kernel
theorem s164_399 {d : Nat} {st : List Value} {σ : am_I} {ρ : am_R} {g : am_J} {τ : am_T} {Q : am_Q} {x0 x1 : Value} {a : Nat} (ht : τ.1 a = 12) : AW d 164 399 [x0, x1] (.ref a :: st) σ ρ g τ Q = AW d 164 402 [x0, x1] (va_rf (ρ a 9) :: st) σ ρ g τ Q := aw_gr m164 d164_399 rfl rfl rfl ht
theorem d164_402 : decode cX12_init 402 = .ok (.aastore, 1) := by decide +kernel
theorem s164_402 {d : Nat} {st : List Value} {σ : am_I} {ρ : am_R} {g : am_J} {τ : am_T} {Q : am_Q} {x0 x1 : Value} {a b : Nat} {j : Int32} (ht : 18 ≤ τ.1 a ∧ τ.1 a ≤ 22) (hj : am_inb j (τ.2.1 a) = true) (hb : τ.1 b = am_elK (τ.1 a)) (hb2 : b < am_BG) : AW d 164 402 [x0, x1] (.ref b :: .int j :: .ref a :: st) σ ρ g τ Q = AW d 164 403 [x0, x1] (st) σ (am_u ρ a j.toNatClampNeg (some b)) g τ Q := aw_aas m164 d164_402 rfl ht hj hb hb2
theorem d164_403 : decode cX12_init 403 = .ok (.dup, 1) := by decide +kernel
theorem s164_403 {d : Nat} {st : List Value} {σ : am_I} {ρ : am_R} {g : am_J} {τ : am_T} {Q : am_Q} {x0 x1 : Value} {v : Int32} : AW d 164 403 [x0, x1] (.int v :: st) σ ρ g τ Q = AW d 164 404 [x0, x1] (.int v :: .int v :: st) σ ρ g τ Q := aw_lc m164 d164_403 rfl rfl rfl
theorem s164_403r {d : Nat} {st : List Value} {σ : am_I} {ρ : am_R} {g : am_J} {τ : am_T} {Q : am_Q} {x0 x1 : Value} {v : Nat} : AW d 164 403 [x0, x1] (.ref v :: st) σ ρ g τ Q = AW d 164 404 [x0, x1] (.ref v :: .ref v :: st) σ ρ g τ Q := aw_lc m164 d164_403 rfl rfl rfl
theorem d164_404 : decode cX12_init 404 = .ok (.bipush 10, 2) := by decide +kernel
theorem s164_404 {d : Nat} {st : List Value} {σ : am_I} {ρ : am_R} {g : am_J} {τ : am_T} {Q : am_Q} {x0 x1 : Value} : AW d 164 404 [x0, x1] (st) σ ρ g τ Q = AW d 164 406 [x0, x1] (.int 10 :: st) σ ρ g τ Q := aw_lc m164 d164_404 rfl rfl rfl
theorem d164_406 : decode cX12_init 406 = .ok (.aload_n 0, 1) := by decide +kernel
theorem s164_406 {d : Nat} {st : List Value} {σ : am_I} {ρ : am_R} {g : am_J} {τ : am_T} {Q : am_Q} {x1 : Value} {v : Nat} : AW d 164 406 [.ref v, x1] (st) σ ρ g τ Q = AW d 164 407 [.ref v, x1] (.ref v :: st) σ ρ g τ Q := aw_lc m164 d164_406 rfl rfl rfl
theorem s164_406n {d : Nat} {st : List Value} {σ : am_I} {ρ : am_R} {g : am_J} {τ : am_T} {Q : am_Q} {x1 : Value} : AW d 164 406 [.null, x1] (st) σ ρ g τ Q = AW d 164 407 [.null, x1] (.null :: st) σ ρ g τ Q := aw_lc m164 d164_406 rfl rfl rfl
theorem d164_407 : decode cX12_init 407 = .ok (.getfield 40, 3) := by decide +kernel
theorem s164_407 {d : Nat} {st : List Value} {σ : am_I} {ρ : am_R} {g : am_J} {τ : am_T} {Q : am_Q} {x0 x1 : Value} {a : Nat} (ht : τ.1 a = 12) : AW d 164 407 [x0, x1] (.ref a :: st) σ ρ g τ Q = AW d 164 410 [x0, x1] (va_rf (ρ a 10) :: st) σ ρ g τ Q := aw_gr m164 d164_407 rfl rfl rfl ht
theorem d164_410 : decode cX12_init 410 = .ok (.aastore, 1) := by decide +kernel
theorem s164_410 {d : Nat} {st : List Value} {σ : am_I} {ρ : am_R} {g : am_J} {τ : am_T} {Q : am_Q} {x0 x1 : Value} {a b : Nat} {j : Int32} (ht : 18 ≤ τ.1 a ∧ τ.1 a ≤ 22) (hj : am_inb j (τ.2.1 a) = true) (hb : τ.1 b = am_elK (τ.1 a)) (hb2 : b < am_BG) : AW d 164 410 [x0, x1] (.ref b :: .int j :: .ref a :: st) σ ρ g τ Q = AW d 164 411 [x0, x1] (st) σ (am_u ρ a j.toNatClampNeg (some b)) g τ Q := aw_aas m164 d164_410 rfl ht hj hb hb2
theorem d164_411 : decode cX12_init 411 = .ok (.dup, 1) := by decide +kernel
theorem s164_411 {d : Nat} {st : List Value} {σ : am_I} {ρ : am_R} {g : am_J} {τ : am_T} {Q : am_Q} {x0 x1 : Value} {v : Int32} : AW d 164 411 [x0, x1] (.int v :: st) σ ρ g τ Q = AW d 164 412 [x0, x1] (.int v :: .int v :: st) σ ρ g τ Q := aw_lc m164 d164_411 rfl rfl rfl
theorem s164_411r {d : Nat} {st : List Value} {σ : am_I} {ρ : am_R} {g : am_J} {τ : am_T} {Q : am_Q} {x0 x1 : Value} {v : Nat} : AW d 164 411 [x0, x1] (.ref v :: st) σ ρ g τ Q = AW d 164 412 [x0, x1] (.ref v :: .ref v :: st) σ ρ g τ Q := aw_lc m164 d164_411 rfl rfl rfl
theorem d164_412 : decode cX12_init 412 = .ok (.bipush 11, 2) := by decide +kernel
theorem s164_412 {d : Nat} {st : List Value} {σ : am_I} {ρ : am_R} {g : am_J} {τ : am_T} {Q : am_Q} {x0 x1 : Value} : AW d 164 412 [x0, x1] (st) σ ρ g τ Q = AW d 164 414 [x0, x1] (.int 11 :: st) σ ρ g τ Q := aw_lc m164 d164_412 rfl rfl rfl
theorem d164_414 : decode cX12_init 414 = .ok (.aload_n 0, 1) := by decide +kernel
theorem s164_414 {d : Nat} {st : List Value} {σ : am_I} {ρ : am_R} {g : am_J} {τ : am_T} {Q : am_Q} {x1 : Value} {v : Nat} : AW d 164 414 [.ref v, x1] (st) σ ρ g τ Q = AW d 164 415 [.ref v, x1] (.ref v :: st) σ ρ g τ Q := aw_lc m164 d164_414 rfl rfl rfl
theorem s164_414n {d : Nat} {st : List Value} {σ : am_I} {ρ : am_R} {g : am_J} {τ : am_T} {Q : am_Q} {x1 : Value} : AW d 164 414 [.null, x1] (st) σ ρ g τ Q = AW d 164 415 [.null, x1] (.null :: st) σ ρ g τ Q := aw_lc m164 d164_414 rfl rfl rfl
theorem d164_415 : decode cX12_init 415 = .ok (.getfield 43, 3) := by decide +kernel
theorem s164_415 {d : Nat} {st : List Value} {σ : am_I} {ρ : am_R} {g : am_J} {τ : am_T} {Q : am_Q} {x0 x1 : Value} {a : Nat} (ht : τ.1 a = 12) : AW d 164 415 [x0, x1] (.ref a :: st) σ ρ g τ Q = AW d 164 418 [x0, x1] (va_rf (ρ a 11) :: st) σ ρ g τ Q := aw_gr m164 d164_415 rfl rfl rfl ht
theorem d164_418 : decode cX12_init 418 = .ok (.aastore, 1) := by decide +kernel
theorem s164_418 {d : Nat} {st : List Value} {σ : am_I} {ρ : am_R} {g : am_J} {τ : am_T} {Q : am_Q} {x0 x1 : Value} {a b : Nat} {j : Int32} (ht : 18 ≤ τ.1 a ∧ τ.1 a ≤ 22) (hj : am_inb j (τ.2.1 a) = true) (hb : τ.1 b = am_elK (τ.1 a)) (hb2 : b < am_BG) : AW d 164 418 [x0, x1] (.ref b :: .int j :: .ref a :: st) σ ρ g τ Q = AW d 164 419 [x0, x1] (st) σ (am_u ρ a j.toNatClampNeg (some b)) g τ Q := aw_aas m164 d164_418 rfl ht hj hb hb2
theorem d164_419 : decode cX12_init 419 = .ok (.dup, 1) := by decide +kernel
theorem s164_419 {d : Nat} {st : List Value} {σ : am_I} {ρ : am_R} {g : am_J} {τ : am_T} {Q : am_Q} {x0 x1 : Value} {v : Int32} : AW d 164 419 [x0, x1] (.int v :: st) σ ρ g τ Q = AW d 164 420 [x0, x1] (.int v :: .int v :: st) σ ρ g τ Q := aw_lc m164 d164_419 rfl rfl rfl
theorem s164_419r {d : Nat} {st : List Value} {σ : am_I} {ρ : am_R} {g : am_J} {τ : am_T} {Q : am_Q} {x0 x1 : Value} {v : Nat} : AW d 164 419 [x0, x1] (.ref v :: st) σ ρ g τ Q = AW d 164 420 [x0, x1] (.ref v :: .ref v :: st) σ ρ g τ Q := aw_lc m164 d164_419 rfl rfl rfl
theorem d164_420 : decode cX12_init 420 = .ok (.bipush 12, 2) := by decide +kernel
theorem s164_420 {d : Nat} {st : List Value} {σ : am_I} {ρ : am_R} {g : am_J} {τ : am_T} {Q : am_Q} {x0 x1 : Value} : AW d 164 420 [x0, x1] (st) σ ρ g τ Q = AW d 164 422 [x0, x1] (.int 12 :: st) σ ρ g τ Q := aw_lc m164 d164_420 rfl rfl rfl
theorem d164_422 : decode cX12_init 422 = .ok (.aload_n 0, 1) := by decide +kernel
theorem s164_422 {d : Nat} {st : List Value} {σ : am_I} {ρ : am_R} {g : am_J} {τ : am_T} {Q : am_Q} {x1 : Value} {v : Nat} : AW d 164 422 [.ref v, x1] (st) σ ρ g τ Q = AW d 164 423 [.ref v, x1] (.ref v :: st) σ ρ g τ Q := aw_lc m164 d164_422 rfl rfl rfl
theorem s164_422n {d : Nat} {st : List Value} {σ : am_I} {ρ : am_R} {g : am_J} {τ : am_T} {Q : am_Q} {x1 : Value} : AW d 164 422 [.null, x1] (st) σ ρ g τ Q = AW d 164 423 [.null, x1] (.null :: st) σ ρ g τ Q := aw_lc m164 d164_422 rfl rfl rfl
theorem d164_423 : decode cX12_init 423 = .ok (.getfield 46, 3) := by decide +kernel
theorem s164_423 {d : Nat} {st : List Value} {σ : am_I} {ρ : am_R} {g : am_J} {τ : am_T} {Q : am_Q} {x0 x1 : Value} {a : Nat} (ht : τ.1 a = 12) : AW d 164 423 [x0, x1] (.ref a :: st) σ ρ g τ Q = AW d 164 426 [x0, x1] (va_rf (ρ a 12) :: st) σ ρ g τ Q := aw_gr m164 d164_423 rfl rfl rfl ht
theorem d164_426 : decode cX12_init 426 = .ok (.aastore, 1) := by decide +kernel
theorem s164_426 {d : Nat} {st : List Value} {σ : am_I} {ρ : am_R} {g : am_J} {τ : am_T} {Q : am_Q} {x0 x1 : Value} {a b : Nat} {j : Int32} (ht : 18 ≤ τ.1 a ∧ τ.1 a ≤ 22) (hj : am_inb j (τ.2.1 a) = true) (hb : τ.1 b = am_elK (τ.1 a)) (hb2 : b < am_BG) : AW d 164 426 [x0, x1] (.ref b :: .int j :: .ref a :: st) σ ρ g τ Q = AW d 164 427 [x0, x1] (st) σ (am_u ρ a j.toNatClampNeg (some b)) g τ Q := aw_aas m164 d164_426 rfl ht hj hb hb2
theorem d164_427 : decode cX12_init 427 = .ok (.dup, 1) := by decide +kernel
theorem s164_427 {d : Nat} {st : List Value} {σ : am_I} {ρ : am_R} {g : am_J} {τ : am_T} {Q : am_Q} {x0 x1 : Value} {v : Int32} : AW d 164 427 [x0, x1] (.int v :: st) σ ρ g τ Q = AW d 164 428 [x0, x1] (.int v :: .int v :: st) σ ρ g τ Q := aw_lc m164 d164_427 rfl rfl rfl
theorem s164_427r {d : Nat} {st : List Value} {σ : am_I} {ρ : am_R} {g : am_J} {τ : am_T} {Q : am_Q} {x0 x1 : Value} {v : Nat} : AW d 164 427 [x0, x1] (.ref v :: st) σ ρ g τ Q = AW d 164 428 [x0, x1] (.ref v :: .ref v :: st) σ ρ g τ Q := aw_lc m164 d164_427 rfl rfl rfl
theorem d164_428 : decode cX12_init 428 = .ok (.bipush 13, 2) := by decide +kernel
theorem s164_428 {d : Nat} {st : List Value} {σ : am_I} {ρ : am_R} {g : am_J} {τ : am_T} {Q : am_Q} {x0 x1 : Value} : AW d 164 428 [x0, x1] (st) σ ρ g τ Q = AW d 164 430 [x0, x1] (.int 13 :: st) σ ρ g τ Q := aw_lc m164 d164_428 rfl rfl rfl
theorem d164_430 : decode cX12_init 430 = .ok (.aload_n 0, 1) := by decide +kernel
theorem s164_430 {d : Nat} {st : List Value} {σ : am_I} {ρ : am_R} {g : am_J} {τ : am_T} {Q : am_Q} {x1 : Value} {v : Nat} : AW d 164 430 [.ref v, x1] (st) σ ρ g τ Q = AW d 164 431 [.ref v, x1] (.ref v :: st) σ ρ g τ Q := aw_lc m164 d164_430 rfl rfl rfl
theorem s164_430n {d : Nat} {st : List Value} {σ : am_I} {ρ : am_R} {g : am_J} {τ : am_T} {Q : am_Q} {x1 : Value} : AW d 164 430 [.null, x1] (st) σ ρ g τ Q = AW d 164 431 [.null, x1] (.null :: st) σ ρ g τ Q := aw_lc m164 d164_430 rfl rfl rfl
theorem d164_431 : decode cX12_init 431 = .ok (.getfield 49, 3) := by decide +kernel
theorem s164_431 {d : Nat} {st : List Value} {σ : am_I} {ρ : am_R} {g : am_J} {τ : am_T} {Q : am_Q} {x0 x1 : Value} {a : Nat} (ht : τ.1 a = 12) : AW d 164 431 [x0, x1] (.ref a :: st) σ ρ g τ Q = AW d 164 434 [x0, x1] (va_rf (ρ a 13) :: st) σ ρ g τ Q := aw_gr m164 d164_431 rfl rfl rfl ht
theorem d164_434 : decode cX12_init 434 = .ok (.aastore, 1) := by decide +kernel
theorem s164_434 {d : Nat} {st : List Value} {σ : am_I} {ρ : am_R} {g : am_J} {τ : am_T} {Q : am_Q} {x0 x1 : Value} {a b : Nat} {j : Int32} (ht : 18 ≤ τ.1 a ∧ τ.1 a ≤ 22) (hj : am_inb j (τ.2.1 a) = true) (hb : τ.1 b = am_elK (τ.1 a)) (hb2 : b < am_BG) : AW d 164 434 [x0, x1] (.ref b :: .int j :: .ref a :: st) σ ρ g τ Q = AW d 164 435 [x0, x1] (st) σ (am_u ρ a j.toNatClampNeg (some b)) g τ Q := aw_aas m164 d164_434 rfl ht hj hb hb2
theorem d164_435 : decode cX12_init 435 = .ok (.dup, 1) := by decide +kernel
theorem s164_435 {d : Nat} {st : List Value} {σ : am_I} {ρ : am_R} {g : am_J} {τ : am_T} {Q : am_Q} {x0 x1 : Value} {v : Int32} : AW d 164 435 [x0, x1] (.int v :: st) σ ρ g τ Q = AW d 164 436 [x0, x1] (.int v :: .int v :: st) σ ρ g τ Q := aw_lc m164 d164_435 rfl rfl rfl
theorem s164_435r {d : Nat} {st : List Value} {σ : am_I} {ρ : am_R} {g : am_J} {τ : am_T} {Q : am_Q} {x0 x1 : Value} {v : Nat} : AW d 164 435 [x0, x1] (.ref v :: st) σ ρ g τ Q = AW d 164 436 [x0, x1] (.ref v :: .ref v :: st) σ ρ g τ Q := aw_lc m164 d164_435 rfl rfl rfl
theorem d164_436 : decode cX12_init 436 = .ok (.bipush 14, 2) := by decide +kernel
theorem s164_436 {d : Nat} {st : List Value} {σ : am_I} {ρ : am_R} {g : am_J} {τ : am_T} {Q : am_Q} {x0 x1 : Value} : AW d 164 436 [x0, x1] (st) σ ρ g τ Q = AW d 164 438 [x0, x1] (.int 14 :: st) σ ρ g τ Q := aw_lc m164 d164_436 rfl rfl rfl
theorem d164_438 : decode cX12_init 438 = .ok (.aload_n 0, 1) := by decide +kernel
theorem s164_438 {d : Nat} {st : List Value} {σ : am_I} {ρ : am_R} {g : am_J} {τ : am_T} {Q : am_Q} {x1 : Value} {v : Nat} : AW d 164 438 [.ref v, x1] (st) σ ρ g τ Q = AW d 164 439 [.ref v, x1] (.ref v :: st) σ ρ g τ Q := aw_lc m164 d164_438 rfl rfl rfl
theorem s164_438n {d : Nat} {st : List Value} {σ : am_I} {ρ : am_R} {g : am_J} {τ : am_T} {Q : am_Q} {x1 : Value} : AW d 164 438 [.null, x1] (st) σ ρ g τ Q = AW d 164 439 [.null, x1] (.null :: st) σ ρ g τ Q := aw_lc m164 d164_438 rfl rfl rfl
theorem d164_439 : decode cX12_init 439 = .ok (.getfield 52, 3) := by decide +kernel
theorem s164_439 {d : Nat} {st : List Value} {σ : am_I} {ρ : am_R} {g : am_J} {τ : am_T} {Q : am_Q} {x0 x1 : Value} {a : Nat} (ht : τ.1 a = 12) : AW d 164 439 [x0, x1] (.ref a :: st) σ ρ g τ Q = AW d 164 442 [x0, x1] (va_rf (ρ a 14) :: st) σ ρ g τ Q := aw_gr m164 d164_439 rfl rfl rfl ht
theorem d164_442 : decode cX12_init 442 = .ok (.aastore, 1) := by decide +kernel
theorem s164_442 {d : Nat} {st : List Value} {σ : am_I} {ρ : am_R} {g : am_J} {τ : am_T} {Q : am_Q} {x0 x1 : Value} {a b : Nat} {j : Int32} (ht : 18 ≤ τ.1 a ∧ τ.1 a ≤ 22) (hj : am_inb j (τ.2.1 a) = true) (hb : τ.1 b = am_elK (τ.1 a)) (hb2 : b < am_BG) : AW d 164 442 [x0, x1] (.ref b :: .int j :: .ref a :: st) σ ρ g τ Q = AW d 164 443 [x0, x1] (st) σ (am_u ρ a j.toNatClampNeg (some b)) g τ Q := aw_aas m164 d164_442 rfl ht hj hb hb2
theorem d164_443 : decode cX12_init 443 = .ok (.dup, 1) := by decide +kernel
theorem s164_443 {d : Nat} {st : List Value} {σ : am_I} {ρ : am_R} {g : am_J} {τ : am_T} {Q : am_Q} {x0 x1 : Value} {v : Int32} : AW d 164 443 [x0, x1] (.int v :: st) σ ρ g τ Q = AW d 164 444 [x0, x1] (.int v :: .int v :: st) σ ρ g τ Q := aw_lc m164 d164_443 rfl rfl rfl
theorem s164_443r {d : Nat} {st : List Value} {σ : am_I} {ρ : am_R} {g : am_J} {τ : am_T} {Q : am_Q} {x0 x1 : Value} {v : Nat} : AW d 164 443 [x0, x1] (.ref v :: st) σ ρ g τ Q = AW d 164 444 [x0, x1] (.ref v :: .ref v :: st) σ ρ g τ Q := aw_lc m164 d164_443 rfl rfl rfl
theorem d164_444 : decode cX12_init 444 = .ok (.bipush 15, 2) := by decide +kernel
theorem s164_444 {d : Nat} {st : List Value} {σ : am_I} {ρ : am_R} {g : am_J} {τ : am_T} {Q : am_Q} {x0 x1 : Value} : AW d 164 444 [x0, x1] (st) σ ρ g τ Q = AW d 164 446 [x0, x1] (.int 15 :: st) σ ρ g τ Q := aw_lc m164 d164_444 rfl rfl rfl
theorem d164_446 : decode cX12_init 446 = .ok (.aload_n 0, 1) := by decide +kernel
theorem s164_446 {d : Nat} {st : List Value} {σ : am_I} {ρ : am_R} {g : am_J} {τ : am_T} {Q : am_Q} {x1 : Value} {v : Nat} : AW d 164 446 [.ref v, x1] (st) σ ρ g τ Q = AW d 164 447 [.ref v, x1] (.ref v :: st) σ ρ g τ Q := aw_lc m164 d164_446 rfl rfl rfl
theorem s164_446n {d : Nat} {st : List Value} {σ : am_I} {ρ : am_R} {g : am_J} {τ : am_T} {Q : am_Q} {x1 : Value} : AW d 164 446 [.null, x1] (st) σ ρ g τ Q = AW d 164 447 [.null, x1] (.null :: st) σ ρ g τ Q := aw_lc m164 d164_446 rfl rfl rfl
theorem d164_447 : decode cX12_init 447 = .ok (.getfield 55, 3) := by decide +kernel
theorem s164_447 {d : Nat} {st : List Value} {σ : am_I} {ρ : am_R} {g : am_J} {τ : am_T} {Q : am_Q} {x0 x1 : Value} {a : Nat} (ht : τ.1 a = 12) : AW d 164 447 [x0, x1] (.ref a :: st) σ ρ g τ Q = AW d 164 450 [x0, x1] (va_rf (ρ a 15) :: st) σ ρ g τ Q := aw_gr m164 d164_447 rfl rfl rfl ht
theorem d164_450 : decode cX12_init 450 = .ok (.aastore, 1) := by decide +kernel
theorem s164_450 {d : Nat} {st : List Value} {σ : am_I} {ρ : am_R} {g : am_J} {τ : am_T} {Q : am_Q} {x0 x1 : Value} {a b : Nat} {j : Int32} (ht : 18 ≤ τ.1 a ∧ τ.1 a ≤ 22) (hj : am_inb j (τ.2.1 a) = true) (hb : τ.1 b = am_elK (τ.1 a)) (hb2 : b < am_BG) : AW d 164 450 [x0, x1] (.ref b :: .int j :: .ref a :: st) σ ρ g τ Q = AW d 164 451 [x0, x1] (st) σ (am_u ρ a j.toNatClampNeg (some b)) g τ Q := aw_aas m164 d164_450 rfl ht hj hb hb2
theorem d164_451 : decode cX12_init 451 = .ok (.dup, 1) := by decide +kernel
theorem s164_451 {d : Nat} {st : List Value} {σ : am_I} {ρ : am_R} {g : am_J} {τ : am_T} {Q : am_Q} {x0 x1 : Value} {v : Int32} : AW d 164 451 [x0, x1] (.int v :: st) σ ρ g τ Q = AW d 164 452 [x0, x1] (.int v :: .int v :: st) σ ρ g τ Q := aw_lc m164 d164_451 rfl rfl rfl
theorem s164_451r {d : Nat} {st : List Value} {σ : am_I} {ρ : am_R} {g : am_J} {τ : am_T} {Q : am_Q} {x0 x1 : Value} {v : Nat} : AW d 164 451 [x0, x1] (.ref v :: st) σ ρ g τ Q = AW d 164 452 [x0, x1] (.ref v :: .ref v :: st) σ ρ g τ Q := aw_lc m164 d164_451 rfl rfl rfl
theorem d164_452 : decode cX12_init 452 = .ok (.bipush 16, 2) := by decide +kernel
theorem s164_452 {d : Nat} {st : List Value} {σ : am_I} {ρ : am_R} {g : am_J} {τ : am_T} {Q : am_Q} {x0 x1 : Value} : AW d 164 452 [x0, x1] (st) σ ρ g τ Q = AW d 164 454 [x0, x1] (.int 16 :: st) σ ρ g τ Q := aw_lc m164 d164_452 rfl rfl rfl
theorem d164_454 : decode cX12_init 454 = .ok (.aload_n 0, 1) := by decide +kernel
theorem s164_454 {d : Nat} {st : List Value} {σ : am_I} {ρ : am_R} {g : am_J} {τ : am_T} {Q : am_Q} {x1 : Value} {v : Nat} : AW d 164 454 [.ref v, x1] (st) σ ρ g τ Q = AW d 164 455 [.ref v, x1] (.ref v :: st) σ ρ g τ Q := aw_lc m164 d164_454 rfl rfl rfl
theorem s164_454n {d : Nat} {st : List Value} {σ : am_I} {ρ : am_R} {g : am_J} {τ : am_T} {Q : am_Q} {x1 : Value} : AW d 164 454 [.null, x1] (st) σ ρ g τ Q = AW d 164 455 [.null, x1] (.null :: st) σ ρ g τ Q := aw_lc m164 d164_454 rfl rfl rfl
theorem d164_455 : decode cX12_init 455 = .ok (.getfield 58, 3) := by decide +kernel
theorem s164_455 {d : Nat} {st : List Value} {σ : am_I} {ρ : am_R} {g : am_J} {τ : am_T} {Q : am_Q} {x0 x1 : Value} {a : Nat} (ht : τ.1 a = 12) : AW d 164 455 [x0, x1] (.ref a :: st) σ ρ g τ Q = AW d 164 458 [x0, x1] (va_rf (ρ a 16) :: st) σ ρ g τ Q := aw_gr m164 d164_455 rfl rfl rfl ht
theorem d164_458 : decode cX12_init 458 = .ok (.aastore, 1) := by decide +kernel
theorem s164_458 {d : Nat} {st : List Value} {σ : am_I} {ρ : am_R} {g : am_J} {τ : am_T} {Q : am_Q} {x0 x1 : Value} {a b : Nat} {j : Int32} (ht : 18 ≤ τ.1 a ∧ τ.1 a ≤ 22) (hj : am_inb j (τ.2.1 a) = true) (hb : τ.1 b = am_elK (τ.1 a)) (hb2 : b < am_BG) : AW d 164 458 [x0, x1] (.ref b :: .int j :: .ref a :: st) σ ρ g τ Q = AW d 164 459 [x0, x1] (st) σ (am_u ρ a j.toNatClampNeg (some b)) g τ Q := aw_aas m164 d164_458 rfl ht hj hb hb2
theorem d164_459 : decode cX12_init 459 = .ok (.dup, 1) := by decide +kernel
theorem s164_459 {d : Nat} {st : List Value} {σ : am_I} {ρ : am_R} {g : am_J} {τ : am_T} {Q : am_Q} {x0 x1 : Value} {v : Int32} : AW d 164 459 [x0, x1] (.int v :: st) σ ρ g τ Q = AW d 164 460 [x0, x1] (.int v :: .int v :: st) σ ρ g τ Q := aw_lc m164 d164_459 rfl rfl rfl
theorem s164_459r {d : Nat} {st : List Value} {σ : am_I} {ρ : am_R} {g : am_J} {τ : am_T} {Q : am_Q} {x0 x1 : Value} {v : Nat} : AW d 164 459 [x0, x1] (.ref v :: st) σ ρ g τ Q = AW d 164 460 [x0, x1] (.ref v :: .ref v :: st) σ ρ g τ Q := aw_lc m164 d164_459 rfl rfl rfl
theorem d164_460 : decode cX12_init 460 = .ok (.bipush 17, 2) := by decide +kernel
theorem s164_460 {d : Nat} {st : List Value} {σ : am_I} {ρ : am_R} {g : am_J} {τ : am_T} {Q : am_Q} {x0 x1 : Value} : AW d 164 460 [x0, x1] (st) σ ρ g τ Q = AW d 164 462 [x0, x1] (.int 17 :: st) σ ρ g τ Q := aw_lc m164 d164_460 rfl rfl rfl
theorem d164_462 : decode cX12_init 462 = .ok (.aload_n 0, 1) := by decide +kernel
theorem s164_462 {d : Nat} {st : List Value} {σ : am_I} {ρ : am_R} {g : am_J} {τ : am_T} {Q : am_Q} {x1 : Value} {v : Nat} : AW d 164 462 [.ref v, x1] (st) σ ρ g τ Q = AW d 164 463 [.ref v, x1] (.ref v :: st) σ ρ g τ Q := aw_lc m164 d164_462 rfl rfl rfl
theorem s164_462n {d : Nat} {st : List Value} {σ : am_I} {ρ : am_R} {g : am_J} {τ : am_T} {Q : am_Q} {x1 : Value} : AW d 164 462 [.null, x1] (st) σ ρ g τ Q = AW d 164 463 [.null, x1] (.null :: st) σ ρ g τ Q := aw_lc m164 d164_462 rfl rfl rfl
theorem d164_463 : decode cX12_init 463 = .ok (.getfield 61, 3) := by decide +kernel
theorem s164_463 {d : Nat} {st : List Value} {σ : am_I} {ρ : am_R} {g : am_J} {τ : am_T} {Q : am_Q} {x0 x1 : Value} {a : Nat} (ht : τ.1 a = 12) : AW d 164 463 [x0, x1] (.ref a :: st) σ ρ g τ Q = AW d 164 466 [x0, x1] (va_rf (ρ a 17) :: st) σ ρ g τ Q := aw_gr m164 d164_463 rfl rfl rfl ht
theorem d164_466 : decode cX12_init 466 = .ok (.aastore, 1) := by decide +kernel
theorem s164_466 {d : Nat} {st : List Value} {σ : am_I} {ρ : am_R} {g : am_J} {τ : am_T} {Q : am_Q} {x0 x1 : Value} {a b : Nat} {j : Int32} (ht : 18 ≤ τ.1 a ∧ τ.1 a ≤ 22) (hj : am_inb j (τ.2.1 a) = true) (hb : τ.1 b = am_elK (τ.1 a)) (hb2 : b < am_BG) : AW d 164 466 [x0, x1] (.ref b :: .int j :: .ref a :: st) σ ρ g τ Q = AW d 164 467 [x0, x1] (st) σ (am_u ρ a j.toNatClampNeg (some b)) g τ Q := aw_aas m164 d164_466 rfl ht hj hb hb2
theorem d164_467 : decode cX12_init 467 = .ok (.dup, 1) := by decide +kernel
theorem s164_467 {d : Nat} {st : List Value} {σ : am_I} {ρ : am_R} {g : am_J} {τ : am_T} {Q : am_Q} {x0 x1 : Value} {v : Int32} : AW d 164 467 [x0, x1] (.int v :: st) σ ρ g τ Q = AW d 164 468 [x0, x1] (.int v :: .int v :: st) σ ρ g τ Q := aw_lc m164 d164_467 rfl rfl rfl
theorem s164_467r {d : Nat} {st : List Value} {σ : am_I} {ρ : am_R} {g : am_J} {τ : am_T} {Q : am_Q} {x0 x1 : Value} {v : Nat} : AW d 164 467 [x0, x1] (.ref v :: st) σ ρ g τ Q = AW d 164 468 [x0, x1] (.ref v :: .ref v :: st) σ ρ g τ Q := aw_lc m164 d164_467 rfl rfl rfl
theorem d164_468 : decode cX12_init 468 = .ok (.bipush 18, 2) := by decide +kernel
theorem s164_468 {d : Nat} {st : List Value} {σ : am_I} {ρ : am_R} {g : am_J} {τ : am_T} {Q : am_Q} {x0 x1 : Value} : AW d 164 468 [x0, x1] (st) σ ρ g τ Q = AW d 164 470 [x0, x1] (.int 18 :: st) σ ρ g τ Q := aw_lc m164 d164_468 rfl rfl rfl
theorem d164_470 : decode cX12_init 470 = .ok (.aload_n 0, 1) := by decide +kernel
theorem s164_470 {d : Nat} {st : List Value} {σ : am_I} {ρ : am_R} {g : am_J} {τ : am_T} {Q : am_Q} {x1 : Value} {v : Nat} : AW d 164 470 [.ref v, x1] (st) σ ρ g τ Q = AW d 164 471 [.ref v, x1] (.ref v :: st) σ ρ g τ Q := aw_lc m164 d164_470 rfl rfl rfl
theorem s164_470n {d : Nat} {st : List Value} {σ : am_I} {ρ : am_R} {g : am_J} {τ : am_T} {Q : am_Q} {x1 : Value} : AW d 164 470 [.null, x1] (st) σ ρ g τ Q = AW d 164 471 [.null, x1] (.null :: st) σ ρ g τ Q := aw_lc m164 d164_470 rfl rfl rfl
theorem d164_471 : decode cX12_init 471 = .ok (.getfield 64, 3) := by decide +kernel
theorem s164_471 {d : Nat} {st : List Value} {σ : am_I} {ρ : am_R} {g : am_J} {τ : am_T} {Q : am_Q} {x0 x1 : Value} {a : Nat} (ht : τ.1 a = 12) : AW d 164 471 [x0, x1] (.ref a :: st) σ ρ g τ Q = AW d 164 474 [x0, x1] (va_rf (ρ a 18) :: st) σ ρ g τ Q := aw_gr m164 d164_471 rfl rfl rfl ht
theorem d164_474 : decode cX12_init 474 = .ok (.aastore, 1) := by decide +kernel
theorem s164_474 {d : Nat} {st : List Value} {σ : am_I} {ρ : am_R} {g : am_J} {τ : am_T} {Q : am_Q} {x0 x1 : Value} {a b : Nat} {j : Int32} (ht : 18 ≤ τ.1 a ∧ τ.1 a ≤ 22) (hj : am_inb j (τ.2.1 a) = true) (hb : τ.1 b = am_elK (τ.1 a)) (hb2 : b < am_BG) : AW d 164 474 [x0, x1] (.ref b :: .int j :: .ref a :: st) σ ρ g τ Q = AW d 164 475 [x0, x1] (st) σ (am_u ρ a j.toNatClampNeg (some b)) g τ Q := aw_aas m164 d164_474 rfl ht hj hb hb2
theorem d164_475 : decode cX12_init 475 = .ok (.dup, 1) := by decide +kernel
theorem s164_475 {d : Nat} {st : List Value} {σ : am_I} {ρ : am_R} {g : am_J} {τ : am_T} {Q : am_Q} {x0 x1 : Value} {v : Int32} : AW d 164 475 [x0, x1] (.int v :: st) σ ρ g τ Q = AW d 164 476 [x0, x1] (.int v :: .int v :: st) σ ρ g τ Q := aw_lc m164 d164_475 rfl rfl rfl
theorem s164_475r {d : Nat} {st : List Value} {σ : am_I} {ρ : am_R} {g : am_J} {τ : am_T} {Q : am_Q} {x0 x1 : Value} {v : Nat} : AW d 164 475 [x0, x1] (.ref v :: st) σ ρ g τ Q = AW d 164 476 [x0, x1] (.ref v :: .ref v :: st) σ ρ g τ Q := aw_lc m164 d164_475 rfl rfl rfl
theorem d164_476 : decode cX12_init 476 = .ok (.bipush 19, 2) := by decide +kernel
theorem s164_476 {d : Nat} {st : List Value} {σ : am_I} {ρ : am_R} {g : am_J} {τ : am_T} {Q : am_Q} {x0 x1 : Value} : AW d 164 476 [x0, x1] (st) σ ρ g τ Q = AW d 164 478 [x0, x1] (.int 19 :: st) σ ρ g τ Q := aw_lc m164 d164_476 rfl rfl rfl
theorem d164_478 : decode cX12_init 478 = .ok (.aload_n 0, 1) := by decide +kernel
theorem s164_478 {d : Nat} {st : List Value} {σ : am_I} {ρ : am_R} {g : am_J} {τ : am_T} {Q : am_Q} {x1 : Value} {v : Nat} : AW d 164 478 [.ref v, x1] (st) σ ρ g τ Q = AW d 164 479 [.ref v, x1] (.ref v :: st) σ ρ g τ Q := aw_lc m164 d164_478 rfl rfl rfl
theorem s164_478n {d : Nat} {st : List Value} {σ : am_I} {ρ : am_R} {g : am_J} {τ : am_T} {Q : am_Q} {x1 : Value} : AW d 164 478 [.null, x1] (st) σ ρ g τ Q = AW d 164 479 [.null, x1] (.null :: st) σ ρ g τ Q := aw_lc m164 d164_478 rfl rfl rfl
theorem d164_479 : decode cX12_init 479 = .ok (.getfield 67, 3) := by decide +kernel
theorem s164_479 {d : Nat} {st : List Value} {σ : am_I} {ρ : am_R} {g : am_J} {τ : am_T} {Q : am_Q} {x0 x1 : Value} {a : Nat} (ht : τ.1 a = 12) : AW d 164 479 [x0, x1] (.ref a :: st) σ ρ g τ Q = AW d 164 482 [x0, x1] (va_rf (ρ a 19) :: st) σ ρ g τ Q := aw_gr m164 d164_479 rfl rfl rfl ht
theorem d164_482 : decode cX12_init 482 = .ok (.aastore, 1) := by decide +kernel
theorem s164_482 {d : Nat} {st : List Value} {σ : am_I} {ρ : am_R} {g : am_J} {τ : am_T} {Q : am_Q} {x0 x1 : Value} {a b : Nat} {j : Int32} (ht : 18 ≤ τ.1 a ∧ τ.1 a ≤ 22) (hj : am_inb j (τ.2.1 a) = true) (hb : τ.1 b = am_elK (τ.1 a)) (hb2 : b < am_BG) : AW d 164 482 [x0, x1] (.ref b :: .int j :: .ref a :: st) σ ρ g τ Q = AW d 164 483 [x0, x1] (st) σ (am_u ρ a j.toNatClampNeg (some b)) g τ Q := aw_aas m164 d164_482 rfl ht hj hb hb2
theorem d164_483 : decode cX12_init 483 = .ok (.dup, 1) := by decide +kernel
theorem s164_483 {d : Nat} {st : List Value} {σ : am_I} {ρ : am_R} {g : am_J} {τ : am_T} {Q : am_Q} {x0 x1 : Value} {v : Int32} : AW d 164 483 [x0, x1] (.int v :: st) σ ρ g τ Q = AW d 164 484 [x0, x1] (.int v :: .int v :: st) σ ρ g τ Q := aw_lc m164 d164_483 rfl rfl rfl
theorem s164_483r {d : Nat} {st : List Value} {σ : am_I} {ρ : am_R} {g : am_J} {τ : am_T} {Q : am_Q} {x0 x1 : Value} {v : Nat} : AW d 164 483 [x0, x1] (.ref v :: st) σ ρ g τ Q = AW d 164 484 [x0, x1] (.ref v :: .ref v :: st) σ ρ g τ Q := aw_lc m164 d164_483 rfl rfl rfl
theorem d164_484 : decode cX12_init 484 = .ok (.bipush 20, 2) := by decide +kernel
theorem s164_484 {d : Nat} {st : List Value} {σ : am_I} {ρ : am_R} {g : am_J} {τ : am_T} {Q : am_Q} {x0 x1 : Value} : AW d 164 484 [x0, x1] (st) σ ρ g τ Q = AW d 164 486 [x0, x1] (.int 20 :: st) σ ρ g τ Q := aw_lc m164 d164_484 rfl rfl rfl
theorem d164_486 : decode cX12_init 486 = .ok (.aload_n 0, 1) := by decide +kernel
theorem s164_486 {d : Nat} {st : List Value} {σ : am_I} {ρ : am_R} {g : am_J} {τ : am_T} {Q : am_Q} {x1 : Value} {v : Nat} : AW d 164 486 [.ref v, x1] (st) σ ρ g τ Q = AW d 164 487 [.ref v, x1] (.ref v :: st) σ ρ g τ Q := aw_lc m164 d164_486 rfl rfl rfl
theorem s164_486n {d : Nat} {st : List Value} {σ : am_I} {ρ : am_R} {g : am_J} {τ : am_T} {Q : am_Q} {x1 : Value} : AW d 164 486 [.null, x1] (st) σ ρ g τ Q = AW d 164 487 [.null, x1] (.null :: st) σ ρ g τ Q := aw_lc m164 d164_486 rfl rfl rfl
theorem d164_487 : decode cX12_init 487 = .ok (.getfield 70, 3) := by decide +kernel
theorem s164_487 {d : Nat} {st : List Value} {σ : am_I} {ρ : am_R} {g : am_J} {τ : am_T} {Q : am_Q} {x0 x1 : Value} {a : Nat} (ht : τ.1 a = 12) : AW d 164 487 [x0, x1] (.ref a :: st) σ ρ g τ Q = AW d 164 490 [x0, x1] (va_rf (ρ a 20) :: st) σ ρ g τ Q := aw_gr m164 d164_487 rfl rfl rfl ht
theorem d164_490 : decode cX12_init 490 = .ok (.aastore, 1) := by decide +kernel
theorem s164_490 {d : Nat} {st : List Value} {σ : am_I} {ρ : am_R} {g : am_J} {τ : am_T} {Q : am_Q} {x0 x1 : Value} {a b : Nat} {j : Int32} (ht : 18 ≤ τ.1 a ∧ τ.1 a ≤ 22) (hj : am_inb j (τ.2.1 a) = true) (hb : τ.1 b = am_elK (τ.1 a)) (hb2 : b < am_BG) : AW d 164 490 [x0, x1] (.ref b :: .int j :: .ref a :: st) σ ρ g τ Q = AW d 164 491 [x0, x1] (st) σ (am_u ρ a j.toNatClampNeg (some b)) g τ Q := aw_aas m164 d164_490 rfl ht hj hb hb2
theorem d164_491 : decode cX12_init 491 = .ok (.dup, 1) := by decide +kernel
theorem s164_491 {d : Nat} {st : List Value} {σ : am_I} {ρ : am_R} {g : am_J} {τ : am_T} {Q : am_Q} {x0 x1 : Value} {v : Int32} : AW d 164 491 [x0, x1] (.int v :: st) σ ρ g τ Q = AW d 164 492 [x0, x1] (.int v :: .int v :: st) σ ρ g τ Q := aw_lc m164 d164_491 rfl rfl rfl
theorem s164_491r {d : Nat} {st : List Value} {σ : am_I} {ρ : am_R} {g : am_J} {τ : am_T} {Q : am_Q} {x0 x1 : Value} {v : Nat} : AW d 164 491 [x0, x1] (.ref v :: st) σ ρ g τ Q = AW d 164 492 [x0, x1] (.ref v :: .ref v :: st) σ ρ g τ Q := aw_lc m164 d164_491 rfl rfl rfl
theorem d164_492 : decode cX12_init 492 = .ok (.bipush 21, 2) := by decide +kernel
theorem s164_492 {d : Nat} {st : List Value} {σ : am_I} {ρ : am_R} {g : am_J} {τ : am_T} {Q : am_Q} {x0 x1 : Value} : AW d 164 492 [x0, x1] (st) σ ρ g τ Q = AW d 164 494 [x0, x1] (.int 21 :: st) σ ρ g τ Q := aw_lc m164 d164_492 rfl rfl rfl
theorem d164_494 : decode cX12_init 494 = .ok (.aload_n 0, 1) := by decide +kernel
theorem s164_494 {d : Nat} {st : List Value} {σ : am_I} {ρ : am_R} {g : am_J} {τ : am_T} {Q : am_Q} {x1 : Value} {v : Nat} : AW d 164 494 [.ref v, x1] (st) σ ρ g τ Q = AW d 164 495 [.ref v, x1] (.ref v :: st) σ ρ g τ Q := aw_lc m164 d164_494 rfl rfl rfl
theorem s164_494n {d : Nat} {st : List Value} {σ : am_I} {ρ : am_R} {g : am_J} {τ : am_T} {Q : am_Q} {x1 : Value} : AW d 164 494 [.null, x1] (st) σ ρ g τ Q = AW d 164 495 [.null, x1] (.null :: st) σ ρ g τ Q := aw_lc m164 d164_494 rfl rfl rfl
theorem d164_495 : decode cX12_init 495 = .ok (.getfield 73, 3) := by decide +kernel
theorem s164_495 {d : Nat} {st : List Value} {σ : am_I} {ρ : am_R} {g : am_J} {τ : am_T} {Q : am_Q} {x0 x1 : Value} {a : Nat} (ht : τ.1 a = 12) : AW d 164 495 [x0, x1] (.ref a :: st) σ ρ g τ Q = AW d 164 498 [x0, x1] (va_rf (ρ a 21) :: st) σ ρ g τ Q := aw_gr m164 d164_495 rfl rfl rfl ht
theorem d164_498 : decode cX12_init 498 = .ok (.aastore, 1) := by decide +kernel
theorem s164_498 {d : Nat} {st : List Value} {σ : am_I} {ρ : am_R} {g : am_J} {τ : am_T} {Q : am_Q} {x0 x1 : Value} {a b : Nat} {j : Int32} (ht : 18 ≤ τ.1 a ∧ τ.1 a ≤ 22) (hj : am_inb j (τ.2.1 a) = true) (hb : τ.1 b = am_elK (τ.1 a)) (hb2 : b < am_BG) : AW d 164 498 [x0, x1] (.ref b :: .int j :: .ref a :: st) σ ρ g τ Q = AW d 164 499 [x0, x1] (st) σ (am_u ρ a j.toNatClampNeg (some b)) g τ Q := aw_aas m164 d164_498 rfl ht hj hb hb2
theorem d164_499 : decode cX12_init 499 = .ok (.dup, 1) := by decide +kernel
theorem s164_499 {d : Nat} {st : List Value} {σ : am_I} {ρ : am_R} {g : am_J} {τ : am_T} {Q : am_Q} {x0 x1 : Value} {v : Int32} : AW d 164 499 [x0, x1] (.int v :: st) σ ρ g τ Q = AW d 164 500 [x0, x1] (.int v :: .int v :: st) σ ρ g τ Q := aw_lc m164 d164_499 rfl rfl rfl
theorem s164_499r {d : Nat} {st : List Value} {σ : am_I} {ρ : am_R} {g : am_J} {τ : am_T} {Q : am_Q} {x0 x1 : Value} {v : Nat} : AW d 164 499 [x0, x1] (.ref v :: st) σ ρ g τ Q = AW d 164 500 [x0, x1] (.ref v :: .ref v :: st) σ ρ g τ Q := aw_lc m164 d164_499 rfl rfl rfl
theorem d164_500 : decode cX12_init 500 = .ok (.bipush 22, 2) := by decide +kernel
theorem s164_500 {d : Nat} {st : List Value} {σ : am_I} {ρ : am_R} {g : am_J} {τ : am_T} {Q : am_Q} {x0 x1 : Value} : AW d 164 500 [x0, x1] (st) σ ρ g τ Q = AW d 164 502 [x0, x1] (.int 22 :: st) σ ρ g τ Q := aw_lc m164 d164_500 rfl rfl rfl
theorem d164_502 : decode cX12_init 502 = .ok (.aload_n 0, 1) := by decide +kernel
theorem s164_502 {d : Nat} {st : List Value} {σ : am_I} {ρ : am_R} {g : am_J} {τ : am_T} {Q : am_Q} {x1 : Value} {v : Nat} : AW d 164 502 [.ref v, x1] (st) σ ρ g τ Q = AW d 164 503 [.ref v, x1] (.ref v :: st) σ ρ g τ Q := aw_lc m164 d164_502 rfl rfl rfl
theorem s164_502n {d : Nat} {st : List Value} {σ : am_I} {ρ : am_R} {g : am_J} {τ : am_T} {Q : am_Q} {x1 : Value} : AW d 164 502 [.null, x1] (st) σ ρ g τ Q = AW d 164 503 [.null, x1] (.null :: st) σ ρ g τ Q := aw_lc m164 d164_502 rfl rfl rfl
theorem d164_503 : decode cX12_init 503 = .ok (.getfield 76, 3) := by decide +kernel
theorem s164_503 {d : Nat} {st : List Value} {σ : am_I} {ρ : am_R} {g : am_J} {τ : am_T} {Q : am_Q} {x0 x1 : Value} {a : Nat} (ht : τ.1 a = 12) : AW d 164 503 [x0, x1] (.ref a :: st) σ ρ g τ Q = AW d 164 506 [x0, x1] (va_rf (ρ a 22) :: st) σ ρ g τ Q := aw_gr m164 d164_503 rfl rfl rfl ht
theorem d164_506 : decode cX12_init 506 = .ok (.aastore, 1) := by decide +kernel
theorem s164_506 {d : Nat} {st : List Value} {σ : am_I} {ρ : am_R} {g : am_J} {τ : am_T} {Q : am_Q} {x0 x1 : Value} {a b : Nat} {j : Int32} (ht : 18 ≤ τ.1 a ∧ τ.1 a ≤ 22) (hj : am_inb j (τ.2.1 a) = true) (hb : τ.1 b = am_elK (τ.1 a)) (hb2 : b < am_BG) : AW d 164 506 [x0, x1] (.ref b :: .int j :: .ref a :: st) σ ρ g τ Q = AW d 164 507 [x0, x1] (st) σ (am_u ρ a j.toNatClampNeg (some b)) g τ Q := aw_aas m164 d164_506 rfl ht hj hb hb2
theorem d164_507 : decode cX12_init 507 = .ok (.dup, 1) := by decide +kernel
theorem s164_507 {d : Nat} {st : List Value} {σ : am_I} {ρ : am_R} {g : am_J} {τ : am_T} {Q : am_Q} {x0 x1 : Value} {v : Int32} : AW d 164 507 [x0, x1] (.int v :: st) σ ρ g τ Q = AW d 164 508 [x0, x1] (.int v :: .int v :: st) σ ρ g τ Q := aw_lc m164 d164_507 rfl rfl rfl
theorem s164_507r {d : Nat} {st : List Value} {σ : am_I} {ρ : am_R} {g : am_J} {τ : am_T} {Q : am_Q} {x0 x1 : Value} {v : Nat} : AW d 164 507 [x0, x1] (.ref v :: st) σ ρ g τ Q = AW d 164 508 [x0, x1] (.ref v :: .ref v :: st) σ ρ g τ Q := aw_lc m164 d164_507 rfl rfl rfl
theorem d164_508 : decode cX12_init 508 = .ok (.bipush 23, 2) := by decide +kernel
theorem s164_508 {d : Nat} {st : List Value} {σ : am_I} {ρ : am_R} {g : am_J} {τ : am_T} {Q : am_Q} {x0 x1 : Value} : AW d 164 508 [x0, x1] (st) σ ρ g τ Q = AW d 164 510 [x0, x1] (.int 23 :: st) σ ρ g τ Q := aw_lc m164 d164_508 rfl rfl rfl
theorem d164_510 : decode cX12_init 510 = .ok (.aload_n 0, 1) := by decide +kernel
theorem s164_510 {d : Nat} {st : List Value} {σ : am_I} {ρ : am_R} {g : am_J} {τ : am_T} {Q : am_Q} {x1 : Value} {v : Nat} : AW d 164 510 [.ref v, x1] (st) σ ρ g τ Q = AW d 164 511 [.ref v, x1] (.ref v :: st) σ ρ g τ Q := aw_lc m164 d164_510 rfl rfl rfl
theorem s164_510n {d : Nat} {st : List Value} {σ : am_I} {ρ : am_R} {g : am_J} {τ : am_T} {Q : am_Q} {x1 : Value} : AW d 164 510 [.null, x1] (st) σ ρ g τ Q = AW d 164 511 [.null, x1] (.null :: st) σ ρ g τ Q := aw_lc m164 d164_510 rfl rfl rfl
theorem d164_511 : decode cX12_init 511 = .ok (.getfield 79, 3) := by decide +kernel
theorem s164_511 {d : Nat} {st : List Value} {σ : am_I} {ρ : am_R} {g : am_J} {τ : am_T} {Q : am_Q} {x0 x1 : Value} {a : Nat} (ht : τ.1 a = 12) : AW d 164 511 [x0, x1] (.ref a :: st) σ ρ g τ Q = AW d 164 514 [x0, x1] (va_rf (ρ a 23) :: st) σ ρ g τ Q := aw_gr m164 d164_511 rfl rfl rfl ht
theorem d164_514 : decode cX12_init 514 = .ok (.aastore, 1) := by decide +kernel
theorem s164_514 {d : Nat} {st : List Value} {σ : am_I} {ρ : am_R} {g : am_J} {τ : am_T} {Q : am_Q} {x0 x1 : Value} {a b : Nat} {j : Int32} (ht : 18 ≤ τ.1 a ∧ τ.1 a ≤ 22) (hj : am_inb j (τ.2.1 a) = true) (hb : τ.1 b = am_elK (τ.1 a)) (hb2 : b < am_BG) : AW d 164 514 [x0, x1] (.ref b :: .int j :: .ref a :: st) σ ρ g τ Q = AW d 164 515 [x0, x1] (st) σ (am_u ρ a j.toNatClampNeg (some b)) g τ Q := aw_aas m164 d164_514 rfl ht hj hb hb2
theorem d164_515 : decode cX12_init 515 = .ok (.dup, 1) := by decide +kernel
theorem s164_515 {d : Nat} {st : List Value} {σ : am_I} {ρ : am_R} {g : am_J} {τ : am_T} {Q : am_Q} {x0 x1 : Value} {v : Int32} : AW d 164 515 [x0, x1] (.int v :: st) σ ρ g τ Q = AW d 164 516 [x0, x1] (.int v :: .int v :: st) σ ρ g τ Q := aw_lc m164 d164_515 rfl rfl rfl
theorem s164_515r {d : Nat} {st : List Value} {σ : am_I} {ρ : am_R} {g : am_J} {τ : am_T} {Q : am_Q} {x0 x1 : Value} {v : Nat} : AW d 164 515 [x0, x1] (.ref v :: st) σ ρ g τ Q = AW d 164 516 [x0, x1] (.ref v :: .ref v :: st) σ ρ g τ Q := aw_lc m164 d164_515 rfl rfl rfl
theorem d164_516 : decode cX12_init 516 = .ok (.bipush 24, 2) := by decide +kernel
theorem s164_516 {d : Nat} {st : List Value} {σ : am_I} {ρ : am_R} {g : am_J} {τ : am_T} {Q : am_Q} {x0 x1 : Value} : AW d 164 516 [x0, x1] (st) σ ρ g τ Q = AW d 164 518 [x0, x1] (.int 24 :: st) σ ρ g τ Q := aw_lc m164 d164_516 rfl rfl rfl
theorem d164_518 : decode cX12_init 518 = .ok (.aload_n 0, 1) := by decide +kernel
theorem s164_518 {d : Nat} {st : List Value} {σ : am_I} {ρ : am_R} {g : am_J} {τ : am_T} {Q : am_Q} {x1 : Value} {v : Nat} : AW d 164 518 [.ref v, x1] (st) σ ρ g τ Q = AW d 164 519 [.ref v, x1] (.ref v :: st) σ ρ g τ Q := aw_lc m164 d164_518 rfl rfl rfl
theorem s164_518n {d : Nat} {st : List Value} {σ : am_I} {ρ : am_R} {g : am_J} {τ : am_T} {Q : am_Q} {x1 : Value} : AW d 164 518 [.null, x1] (st) σ ρ g τ Q = AW d 164 519 [.null, x1] (.null :: st) σ ρ g τ Q := aw_lc m164 d164_518 rfl rfl rfl
theorem d164_519 : decode cX12_init 519 = .ok (.getfield 82, 3) := by decide +kernel
theorem s164_519 {d : Nat} {st : List Value} {σ : am_I} {ρ : am_R} {g : am_J} {τ : am_T} {Q : am_Q} {x0 x1 : Value} {a : Nat} (ht : τ.1 a = 12) : AW d 164 519 [x0, x1] (.ref a :: st) σ ρ g τ Q = AW d 164 522 [x0, x1] (va_rf (ρ a 24) :: st) σ ρ g τ Q := aw_gr m164 d164_519 rfl rfl rfl ht
theorem d164_522 : decode cX12_init 522 = .ok (.aastore, 1) := by decide +kernel
theorem s164_522 {d : Nat} {st : List Value} {σ : am_I} {ρ : am_R} {g : am_J} {τ : am_T} {Q : am_Q} {x0 x1 : Value} {a b : Nat} {j : Int32} (ht : 18 ≤ τ.1 a ∧ τ.1 a ≤ 22) (hj : am_inb j (τ.2.1 a) = true) (hb : τ.1 b = am_elK (τ.1 a)) (hb2 : b < am_BG) : AW d 164 522 [x0, x1] (.ref b :: .int j :: .ref a :: st) σ ρ g τ Q = AW d 164 523 [x0, x1] (st) σ (am_u ρ a j.toNatClampNeg (some b)) g τ Q := aw_aas m164 d164_522 rfl ht hj hb hb2
theorem d164_523 : decode cX12_init 523 = .ok (.dup, 1) := by decide +kernel
theorem s164_523 {d : Nat} {st : List Value} {σ : am_I} {ρ : am_R} {g : am_J} {τ : am_T} {Q : am_Q} {x0 x1 : Value} {v : Int32} : AW d 164 523 [x0, x1] (.int v :: st) σ ρ g τ Q = AW d 164 524 [x0, x1] (.int v :: .int v :: st) σ ρ g τ Q := aw_lc m164 d164_523 rfl rfl rfl
theorem s164_523r {d : Nat} {st : List Value} {σ : am_I} {ρ : am_R} {g : am_J} {τ : am_T} {Q : am_Q} {x0 x1 : Value} {v : Nat} : AW d 164 523 [x0, x1] (.ref v :: st) σ ρ g τ Q = AW d 164 524 [x0, x1] (.ref v :: .ref v :: st) σ ρ g τ Q := aw_lc m164 d164_523 rfl rfl rfl
theorem d164_524 : decode cX12_init 524 = .ok (.bipush 25, 2) := by decide +kernel
theorem s164_524 {d : Nat} {st : List Value} {σ : am_I} {ρ : am_R} {g : am_J} {τ : am_T} {Q : am_Q} {x0 x1 : Value} : AW d 164 524 [x0, x1] (st) σ ρ g τ Q = AW d 164 526 [x0, x1] (.int 25 :: st) σ ρ g τ Q := aw_lc m164 d164_524 rfl rfl rfl
theorem d164_526 : decode cX12_init 526 = .ok (.aload_n 0, 1) := by decide +kernel
theorem s164_526 {d : Nat} {st : List Value} {σ : am_I} {ρ : am_R} {g : am_J} {τ : am_T} {Q : am_Q} {x1 : Value} {v : Nat} : AW d 164 526 [.ref v, x1] (st) σ ρ g τ Q = AW d 164 527 [.ref v, x1] (.ref v :: st) σ ρ g τ Q := aw_lc m164 d164_526 rfl rfl rfl
theorem s164_526n {d : Nat} {st : List Value} {σ : am_I} {ρ : am_R} {g : am_J} {τ : am_T} {Q : am_Q} {x1 : Value} : AW d 164 526 [.null, x1] (st) σ ρ g τ Q = AW d 164 527 [.null, x1] (.null :: st) σ ρ g τ Q := aw_lc m164 d164_526 rfl rfl rfl
theorem d164_527 : decode cX12_init 527 = .ok (.getfield 85, 3) := by decide +kernel
theorem s164_527 {d : Nat} {st : List Value} {σ : am_I} {ρ : am_R} {g : am_J} {τ : am_T} {Q : am_Q} {x0 x1 : Value} {a : Nat} (ht : τ.1 a = 12) : AW d 164 527 [x0, x1] (.ref a :: st) σ ρ g τ Q = AW d 164 530 [x0, x1] (va_rf (ρ a 25) :: st) σ ρ g τ Q := aw_gr m164 d164_527 rfl rfl rfl ht
theorem d164_530 : decode cX12_init 530 = .ok (.aastore, 1) := by decide +kernel
theorem s164_530 {d : Nat} {st : List Value} {σ : am_I} {ρ : am_R} {g : am_J} {τ : am_T} {Q : am_Q} {x0 x1 : Value} {a b : Nat} {j : Int32} (ht : 18 ≤ τ.1 a ∧ τ.1 a ≤ 22) (hj : am_inb j (τ.2.1 a) = true) (hb : τ.1 b = am_elK (τ.1 a)) (hb2 : b < am_BG) : AW d 164 530 [x0, x1] (.ref b :: .int j :: .ref a :: st) σ ρ g τ Q = AW d 164 531 [x0, x1] (st) σ (am_u ρ a j.toNatClampNeg (some b)) g τ Q := aw_aas m164 d164_530 rfl ht hj hb hb2
theorem d164_531 : decode cX12_init 531 = .ok (.dup, 1) := by decide +kernel
theorem s164_531 {d : Nat} {st : List Value} {σ : am_I} {ρ : am_R} {g : am_J} {τ : am_T} {Q : am_Q} {x0 x1 : Value} {v : Int32} : AW d 164 531 [x0, x1] (.int v :: st) σ ρ g τ Q = AW d 164 532 [x0, x1] (.int v :: .int v :: st) σ ρ g τ Q := aw_lc m164 d164_531 rfl rfl rfl
theorem s164_531r {d : Nat} {st : List Value} {σ : am_I} {ρ : am_R} {g : am_J} {τ : am_T} {Q : am_Q} {x0 x1 : Value} {v : Nat} : AW d 164 531 [x0, x1] (.ref v :: st) σ ρ g τ Q = AW d 164 532 [x0, x1] (.ref v :: .ref v :: st) σ ρ g τ Q := aw_lc m164 d164_531 rfl rfl rfl
theorem d164_532 : decode cX12_init 532 = .ok (.bipush 26, 2) := by decide +kernel
theorem s164_532 {d : Nat} {st : List Value} {σ : am_I} {ρ : am_R} {g : am_J} {τ : am_T} {Q : am_Q} {x0 x1 : Value} : AW d 164 532 [x0, x1] (st) σ ρ g τ Q = AW d 164 534 [x0, x1] (.int 26 :: st) σ ρ g τ Q := aw_lc m164 d164_532 rfl rfl rfl
theorem d164_534 : decode cX12_init 534 = .ok (.aload_n 0, 1) := by decide +kernel
theorem s164_534 {d : Nat} {st : List Value} {σ : am_I} {ρ : am_R} {g : am_J} {τ : am_T} {Q : am_Q} {x1 : Value} {v : Nat} : AW d 164 534 [.ref v, x1] (st) σ ρ g τ Q = AW d 164 535 [.ref v, x1] (.ref v :: st) σ ρ g τ Q := aw_lc m164 d164_534 rfl rfl rfl
theorem s164_534n {d : Nat} {st : List Value} {σ : am_I} {ρ : am_R} {g : am_J} {τ : am_T} {Q : am_Q} {x1 : Value} : AW d 164 534 [.null, x1] (st) σ ρ g τ Q = AW d 164 535 [.null, x1] (.null :: st) σ ρ g τ Q := aw_lc m164 d164_534 rfl rfl rfl
theorem d164_535 : decode cX12_init 535 = .ok (.getfield 88, 3) := by decide +kernel
theorem s164_535 {d : Nat} {st : List Value} {σ : am_I} {ρ : am_R} {g : am_J} {τ : am_T} {Q : am_Q} {x0 x1 : Value} {a : Nat} (ht : τ.1 a = 12) : AW d 164 535 [x0, x1] (.ref a :: st) σ ρ g τ Q = AW d 164 538 [x0, x1] (va_rf (ρ a 26) :: st) σ ρ g τ Q := aw_gr m164 d164_535 rfl rfl rfl ht
theorem d164_538 : decode cX12_init 538 = .ok (.aastore, 1) := by decide +kernel
theorem s164_538 {d : Nat} {st : List Value} {σ : am_I} {ρ : am_R} {g : am_J} {τ : am_T} {Q : am_Q} {x0 x1 : Value} {a b : Nat} {j : Int32} (ht : 18 ≤ τ.1 a ∧ τ.1 a ≤ 22) (hj : am_inb j (τ.2.1 a) = true) (hb : τ.1 b = am_elK (τ.1 a)) (hb2 : b < am_BG) : AW d 164 538 [x0, x1] (.ref b :: .int j :: .ref a :: st) σ ρ g τ Q = AW d 164 539 [x0, x1] (st) σ (am_u ρ a j.toNatClampNeg (some b)) g τ Q := aw_aas m164 d164_538 rfl ht hj hb hb2
theorem d164_539 : decode cX12_init 539 = .ok (.dup, 1) := by decide +kernel
theorem s164_539 {d : Nat} {st : List Value} {σ : am_I} {ρ : am_R} {g : am_J} {τ : am_T} {Q : am_Q} {x0 x1 : Value} {v : Int32} : AW d 164 539 [x0, x1] (.int v :: st) σ ρ g τ Q = AW d 164 540 [x0, x1] (.int v :: .int v :: st) σ ρ g τ Q := aw_lc m164 d164_539 rfl rfl rfl
theorem s164_539r {d : Nat} {st : List Value} {σ : am_I} {ρ : am_R} {g : am_J} {τ : am_T} {Q : am_Q} {x0 x1 : Value} {v : Nat} : AW d 164 539 [x0, x1] (.ref v :: st) σ ρ g τ Q = AW d 164 540 [x0, x1] (.ref v :: .ref v :: st) σ ρ g τ Q := aw_lc m164 d164_539 rfl rfl rfl
theorem d164_540 : decode cX12_init 540 = .ok (.bipush 27, 2) := by decide +kernel
theorem s164_540 {d : Nat} {st : List Value} {σ : am_I} {ρ : am_R} {g : am_J} {τ : am_T} {Q : am_Q} {x0 x1 : Value} : AW d 164 540 [x0, x1] (st) σ ρ g τ Q = AW d 164 542 [x0, x1] (.int 27 :: st) σ ρ g τ Q := aw_lc m164 d164_540 rfl rfl rfl
theorem d164_542 : decode cX12_init 542 = .ok (.aload_n 0, 1) := by decide +kernel
theorem s164_542 {d : Nat} {st : List Value} {σ : am_I} {ρ : am_R} {g : am_J} {τ : am_T} {Q : am_Q} {x1 : Value} {v : Nat} : AW d 164 542 [.ref v, x1] (st) σ ρ g τ Q = AW d 164 543 [.ref v, x1] (.ref v :: st) σ ρ g τ Q := aw_lc m164 d164_542 rfl rfl rfl
theorem s164_542n {d : Nat} {st : List Value} {σ : am_I} {ρ : am_R} {g : am_J} {τ : am_T} {Q : am_Q} {x1 : Value} : AW d 164 542 [.null, x1] (st) σ ρ g τ Q = AW d 164 543 [.null, x1] (.null :: st) σ ρ g τ Q := aw_lc m164 d164_542 rfl rfl rfl
theorem d164_543 : decode cX12_init 543 = .ok (.getfield 91, 3) := by decide +kernel
theorem s164_543 {d : Nat} {st : List Value} {σ : am_I} {ρ : am_R} {g : am_J} {τ : am_T} {Q : am_Q} {x0 x1 : Value} {a : Nat} (ht : τ.1 a = 12) : AW d 164 543 [x0, x1] (.ref a :: st) σ ρ g τ Q = AW d 164 546 [x0, x1] (va_rf (ρ a 27) :: st) σ ρ g τ Q := aw_gr m164 d164_543 rfl rfl rfl ht
theorem d164_546 : decode cX12_init 546 = .ok (.aastore, 1) := by decide +kernel
theorem s164_546 {d : Nat} {st : List Value} {σ : am_I} {ρ : am_R} {g : am_J} {τ : am_T} {Q : am_Q} {x0 x1 : Value} {a b : Nat} {j : Int32} (ht : 18 ≤ τ.1 a ∧ τ.1 a ≤ 22) (hj : am_inb j (τ.2.1 a) = true) (hb : τ.1 b = am_elK (τ.1 a)) (hb2 : b < am_BG) : AW d 164 546 [x0, x1] (.ref b :: .int j :: .ref a :: st) σ ρ g τ Q = AW d 164 547 [x0, x1] (st) σ (am_u ρ a j.toNatClampNeg (some b)) g τ Q := aw_aas m164 d164_546 rfl ht hj hb hb2
theorem d164_547 : decode cX12_init 547 = .ok (.dup, 1) := by decide +kernel
theorem s164_547 {d : Nat} {st : List Value} {σ : am_I} {ρ : am_R} {g : am_J} {τ : am_T} {Q : am_Q} {x0 x1 : Value} {v : Int32} : AW d 164 547 [x0, x1] (.int v :: st) σ ρ g τ Q = AW d 164 548 [x0, x1] (.int v :: .int v :: st) σ ρ g τ Q := aw_lc m164 d164_547 rfl rfl rfl
theorem s164_547r {d : Nat} {st : List Value} {σ : am_I} {ρ : am_R} {g : am_J} {τ : am_T} {Q : am_Q} {x0 x1 : Value} {v : Nat} : AW d 164 547 [x0, x1] (.ref v :: st) σ ρ g τ Q = AW d 164 548 [x0, x1] (.ref v :: .ref v :: st) σ ρ g τ Q := aw_lc m164 d164_547 rfl rfl rfl
theorem d164_548 : decode cX12_init 548 = .ok (.bipush 28, 2) := by decide +kernel
theorem s164_548 {d : Nat} {st : List Value} {σ : am_I} {ρ : am_R} {g : am_J} {τ : am_T} {Q : am_Q} {x0 x1 : Value} : AW d 164 548 [x0, x1] (st) σ ρ g τ Q = AW d 164 550 [x0, x1] (.int 28 :: st) σ ρ g τ Q := aw_lc m164 d164_548 rfl rfl rfl
theorem d164_550 : decode cX12_init 550 = .ok (.aload_n 0, 1) := by decide +kernel
theorem s164_550 {d : Nat} {st : List Value} {σ : am_I} {ρ : am_R} {g : am_J} {τ : am_T} {Q : am_Q} {x1 : Value} {v : Nat} : AW d 164 550 [.ref v, x1] (st) σ ρ g τ Q = AW d 164 551 [.ref v, x1] (.ref v :: st) σ ρ g τ Q := aw_lc m164 d164_550 rfl rfl rfl
theorem s164_550n {d : Nat} {st : List Value} {σ : am_I} {ρ : am_R} {g : am_J} {τ : am_T} {Q : am_Q} {x1 : Value} : AW d 164 550 [.null, x1] (st) σ ρ g τ Q = AW d 164 551 [.null, x1] (.null :: st) σ ρ g τ Q := aw_lc m164 d164_550 rfl rfl rfl
theorem d164_551 : decode cX12_init 551 = .ok (.getfield 94, 3) := by decide +kernel
theorem s164_551 {d : Nat} {st : List Value} {σ : am_I} {ρ : am_R} {g : am_J} {τ : am_T} {Q : am_Q} {x0 x1 : Value} {a : Nat} (ht : τ.1 a = 12) : AW d 164 551 [x0, x1] (.ref a :: st) σ ρ g τ Q = AW d 164 554 [x0, x1] (va_rf (ρ a 28) :: st) σ ρ g τ Q := aw_gr m164 d164_551 rfl rfl rfl ht
theorem d164_554 : decode cX12_init 554 = .ok (.aastore, 1) := by decide +kernel
theorem s164_554 {d : Nat} {st : List Value} {σ : am_I} {ρ : am_R} {g : am_J} {τ : am_T} {Q : am_Q} {x0 x1 : Value} {a b : Nat} {j : Int32} (ht : 18 ≤ τ.1 a ∧ τ.1 a ≤ 22) (hj : am_inb j (τ.2.1 a) = true) (hb : τ.1 b = am_elK (τ.1 a)) (hb2 : b < am_BG) : AW d 164 554 [x0, x1] (.ref b :: .int j :: .ref a :: st) σ ρ g τ Q = AW d 164 555 [x0, x1] (st) σ (am_u ρ a j.toNatClampNeg (some b)) g τ Q := aw_aas m164 d164_554 rfl ht hj hb hb2
theorem d164_555 : decode cX12_init 555 = .ok (.dup, 1) := by decide +kernel
theorem s164_555 {d : Nat} {st : List Value} {σ : am_I} {ρ : am_R} {g : am_J} {τ : am_T} {Q : am_Q} {x0 x1 : Value} {v : Int32} : AW d 164 555 [x0, x1] (.int v :: st) σ ρ g τ Q = AW d 164 556 [x0, x1] (.int v :: .int v :: st) σ ρ g τ Q := aw_lc m164 d164_555 rfl rfl rfl
theorem s164_555r {d : Nat} {st : List Value} {σ : am_I} {ρ : am_R} {g : am_J} {τ : am_T} {Q : am_Q} {x0 x1 : Value} {v : Nat} : AW d 164 555 [x0, x1] (.ref v :: st) σ ρ g τ Q = AW d 164 556 [x0, x1] (.ref v :: .ref v :: st) σ ρ g τ Q := aw_lc m164 d164_555 rfl rfl rfl
theorem d164_556 : decode cX12_init 556 = .ok (.bipush 29, 2) := by decide +kernel
theorem s164_556 {d : Nat} {st : List Value} {σ : am_I} {ρ : am_R} {g : am_J} {τ : am_T} {Q : am_Q} {x0 x1 : Value} : AW d 164 556 [x0, x1] (st) σ ρ g τ Q = AW d 164 558 [x0, x1] (.int 29 :: st) σ ρ g τ Q := aw_lc m164 d164_556 rfl rfl rfl
theorem d164_558 : decode cX12_init 558 = .ok (.aload_n 0, 1) := by decide +kernel
theorem s164_558 {d : Nat} {st : List Value} {σ : am_I} {ρ : am_R} {g : am_J} {τ : am_T} {Q : am_Q} {x1 : Value} {v : Nat} : AW d 164 558 [.ref v, x1] (st) σ ρ g τ Q = AW d 164 559 [.ref v, x1] (.ref v :: st) σ ρ g τ Q := aw_lc m164 d164_558 rfl rfl rfl
theorem s164_558n {d : Nat} {st : List Value} {σ : am_I} {ρ : am_R} {g : am_J} {τ : am_T} {Q : am_Q} {x1 : Value} : AW d 164 558 [.null, x1] (st) σ ρ g τ Q = AW d 164 559 [.null, x1] (.null :: st) σ ρ g τ Q := aw_lc m164 d164_558 rfl rfl rfl
theorem d164_559 : decode cX12_init 559 = .ok (.getfield 97, 3) := by decide +kernel
theorem s164_559 {d : Nat} {st : List Value} {σ : am_I} {ρ : am_R} {g : am_J} {τ : am_T} {Q : am_Q} {x0 x1 : Value} {a : Nat} (ht : τ.1 a = 12) : AW d 164 559 [x0, x1] (.ref a :: st) σ ρ g τ Q = AW d 164 562 [x0, x1] (va_rf (ρ a 29) :: st) σ ρ g τ Q := aw_gr m164 d164_559 rfl rfl rfl ht
theorem d164_562 : decode cX12_init 562 = .ok (.aastore, 1) := by decide +kernel
theorem s164_562 {d : Nat} {st : List Value} {σ : am_I} {ρ : am_R} {g : am_J} {τ : am_T} {Q : am_Q} {x0 x1 : Value} {a b : Nat} {j : Int32} (ht : 18 ≤ τ.1 a ∧ τ.1 a ≤ 22) (hj : am_inb j (τ.2.1 a) = true) (hb : τ.1 b = am_elK (τ.1 a)) (hb2 : b < am_BG) : AW d 164 562 [x0, x1] (.ref b :: .int j :: .ref a :: st) σ ρ g τ Q = AW d 164 563 [x0, x1] (st) σ (am_u ρ a j.toNatClampNeg (some b)) g τ Q := aw_aas m164 d164_562 rfl ht hj hb hb2
theorem d164_563 : decode cX12_init 563 = .ok (.dup, 1) := by decide +kernel
theorem s164_563 {d : Nat} {st : List Value} {σ : am_I} {ρ : am_R} {g : am_J} {τ : am_T} {Q : am_Q} {x0 x1 : Value} {v : Int32} : AW d 164 563 [x0, x1] (.int v :: st) σ ρ g τ Q = AW d 164 564 [x0, x1] (.int v :: .int v :: st) σ ρ g τ Q := aw_lc m164 d164_563 rfl rfl rfl
theorem s164_563r {d : Nat} {st : List Value} {σ : am_I} {ρ : am_R} {g : am_J} {τ : am_T} {Q : am_Q} {x0 x1 : Value} {v : Nat} : AW d 164 563 [x0, x1] (.ref v :: st) σ ρ g τ Q = AW d 164 564 [x0, x1] (.ref v :: .ref v :: st) σ ρ g τ Q := aw_lc m164 d164_563 rfl rfl rfl
theorem d164_564 : decode cX12_init 564 = .ok (.bipush 30, 2) := by decide +kernel
theorem s164_564 {d : Nat} {st : List Value} {σ : am_I} {ρ : am_R} {g : am_J} {τ : am_T} {Q : am_Q} {x0 x1 : Value} : AW d 164 564 [x0, x1] (st) σ ρ g τ Q = AW d 164 566 [x0, x1] (.int 30 :: st) σ ρ g τ Q := aw_lc m164 d164_564 rfl rfl rfl
theorem d164_566 : decode cX12_init 566 = .ok (.aload_n 0, 1) := by decide +kernel
theorem s164_566 {d : Nat} {st : List Value} {σ : am_I} {ρ : am_R} {g : am_J} {τ : am_T} {Q : am_Q} {x1 : Value} {v : Nat} : AW d 164 566 [.ref v, x1] (st) σ ρ g τ Q = AW d 164 567 [.ref v, x1] (.ref v :: st) σ ρ g τ Q := aw_lc m164 d164_566 rfl rfl rfl
theorem s164_566n {d : Nat} {st : List Value} {σ : am_I} {ρ : am_R} {g : am_J} {τ : am_T} {Q : am_Q} {x1 : Value} : AW d 164 566 [.null, x1] (st) σ ρ g τ Q = AW d 164 567 [.null, x1] (.null :: st) σ ρ g τ Q := aw_lc m164 d164_566 rfl rfl rfl
theorem d164_567 : decode cX12_init 567 = .ok (.getfield 100, 3) := by decide +kernel
theorem s164_567 {d : Nat} {st : List Value} {σ : am_I} {ρ : am_R} {g : am_J} {τ : am_T} {Q : am_Q} {x0 x1 : Value} {a : Nat} (ht : τ.1 a = 12) : AW d 164 567 [x0, x1] (.ref a :: st) σ ρ g τ Q = AW d 164 570 [x0, x1] (va_rf (ρ a 30) :: st) σ ρ g τ Q := aw_gr m164 d164_567 rfl rfl rfl ht
theorem d164_570 : decode cX12_init 570 = .ok (.aastore, 1) := by decide +kernel
theorem s164_570 {d : Nat} {st : List Value} {σ : am_I} {ρ : am_R} {g : am_J} {τ : am_T} {Q : am_Q} {x0 x1 : Value} {a b : Nat} {j : Int32} (ht : 18 ≤ τ.1 a ∧ τ.1 a ≤ 22) (hj : am_inb j (τ.2.1 a) = true) (hb : τ.1 b = am_elK (τ.1 a)) (hb2 : b < am_BG) : AW d 164 570 [x0, x1] (.ref b :: .int j :: .ref a :: st) σ ρ g τ Q = AW d 164 571 [x0, x1] (st) σ (am_u ρ a j.toNatClampNeg (some b)) g τ Q := aw_aas m164 d164_570 rfl ht hj hb hb2
theorem d164_571 : decode cX12_init 571 = .ok (.dup, 1) := by decide +kernel
theorem s164_571 {d : Nat} {st : List Value} {σ : am_I} {ρ : am_R} {g : am_J} {τ : am_T} {Q : am_Q} {x0 x1 : Value} {v : Int32} : AW d 164 571 [x0, x1] (.int v :: st) σ ρ g τ Q = AW d 164 572 [x0, x1] (.int v :: .int v :: st) σ ρ g τ Q := aw_lc m164 d164_571 rfl rfl rfl
theorem s164_571r {d : Nat} {st : List Value} {σ : am_I} {ρ : am_R} {g : am_J} {τ : am_T} {Q : am_Q} {x0 x1 : Value} {v : Nat} : AW d 164 571 [x0, x1] (.ref v :: st) σ ρ g τ Q = AW d 164 572 [x0, x1] (.ref v :: .ref v :: st) σ ρ g τ Q := aw_lc m164 d164_571 rfl rfl rfl
theorem d164_572 : decode cX12_init 572 = .ok (.bipush 31, 2) := by decide +kernel
theorem s164_572 {d : Nat} {st : List Value} {σ : am_I} {ρ : am_R} {g : am_J} {τ : am_T} {Q : am_Q} {x0 x1 : Value} : AW d 164 572 [x0, x1] (st) σ ρ g τ Q = AW d 164 574 [x0, x1] (.int 31 :: st) σ ρ g τ Q := aw_lc m164 d164_572 rfl rfl rfl
theorem d164_574 : decode cX12_init 574 = .ok (.aload_n 0, 1) := by decide +kernel
theorem s164_574 {d : Nat} {st : List Value} {σ : am_I} {ρ : am_R} {g : am_J} {τ : am_T} {Q : am_Q} {x1 : Value} {v : Nat} : AW d 164 574 [.ref v, x1] (st) σ ρ g τ Q = AW d 164 575 [.ref v, x1] (.ref v :: st) σ ρ g τ Q := aw_lc m164 d164_574 rfl rfl rfl
theorem s164_574n {d : Nat} {st : List Value} {σ : am_I} {ρ : am_R} {g : am_J} {τ : am_T} {Q : am_Q} {x1 : Value} : AW d 164 574 [.null, x1] (st) σ ρ g τ Q = AW d 164 575 [.null, x1] (.null :: st) σ ρ g τ Q := aw_lc m164 d164_574 rfl rfl rfl
theorem d164_575 : decode cX12_init 575 = .ok (.getfield 103, 3) := by decide +kernel
theorem s164_575 {d : Nat} {st : List Value} {σ : am_I} {ρ : am_R} {g : am_J} {τ : am_T} {Q : am_Q} {x0 x1 : Value} {a : Nat} (ht : τ.1 a = 12) : AW d 164 575 [x0, x1] (.ref a :: st) σ ρ g τ Q = AW d 164 578 [x0, x1] (va_rf (ρ a 31) :: st) σ ρ g τ Q := aw_gr m164 d164_575 rfl rfl rfl ht
theorem d164_578 : decode cX12_init 578 = .ok (.aastore, 1) := by decide +kernel
theorem s164_578 {d : Nat} {st : List Value} {σ : am_I} {ρ : am_R} {g : am_J} {τ : am_T} {Q : am_Q} {x0 x1 : Value} {a b : Nat} {j : Int32} (ht : 18 ≤ τ.1 a ∧ τ.1 a ≤ 22) (hj : am_inb j (τ.2.1 a) = true) (hb : τ.1 b = am_elK (τ.1 a)) (hb2 : b < am_BG) : AW d 164 578 [x0, x1] (.ref b :: .int j :: .ref a :: st) σ ρ g τ Q = AW d 164 579 [x0, x1] (st) σ (am_u ρ a j.toNatClampNeg (some b)) g τ Q := aw_aas m164 d164_578 rfl ht hj hb hb2
theorem d164_579 : decode cX12_init 579 = .ok (.dup, 1) := by decide +kernel
theorem s164_579 {d : Nat} {st : List Value} {σ : am_I} {ρ : am_R} {g : am_J} {τ : am_T} {Q : am_Q} {x0 x1 : Value} {v : Int32} : AW d 164 579 [x0, x1] (.int v :: st) σ ρ g τ Q = AW d 164 580 [x0, x1] (.int v :: .int v :: st) σ ρ g τ Q := aw_lc m164 d164_579 rfl rfl rfl
theorem s164_579r {d : Nat} {st : List Value} {σ : am_I} {ρ : am_R} {g : am_J} {τ : am_T} {Q : am_Q} {x0 x1 : Value} {v : Nat} : AW d 164 579 [x0, x1] (.ref v :: st) σ ρ g τ Q = AW d 164 580 [x0, x1] (.ref v :: .ref v :: st) σ ρ g τ Q := aw_lc m164 d164_579 rfl rfl rfl
theorem d164_580 : decode cX12_init 580 = .ok (.bipush 32, 2) := by decide +kernel
theorem s164_580 {d : Nat} {st : List Value} {σ : am_I} {ρ : am_R} {g : am_J} {τ : am_T} {Q : am_Q} {x0 x1 : Value} : AW d 164 580 [x0, x1] (st) σ ρ g τ Q = AW d 164 582 [x0, x1] (.int 32 :: st) σ ρ g τ Q := aw_lc m164 d164_580 rfl rfl rfl
theorem d164_582 : decode cX12_init 582 = .ok (.aload_n 0, 1) := by decide +kernel
theorem s164_582 {d : Nat} {st : List Value} {σ : am_I} {ρ : am_R} {g : am_J} {τ : am_T} {Q : am_Q} {x1 : Value} {v : Nat} : AW d 164 582 [.ref v, x1] (st) σ ρ g τ Q = AW d 164 583 [.ref v, x1] (.ref v :: st) σ ρ g τ Q := aw_lc m164 d164_582 rfl rfl rfl
theorem s164_582n {d : Nat} {st : List Value} {σ : am_I} {ρ : am_R} {g : am_J} {τ : am_T} {Q : am_Q} {x1 : Value} : AW d 164 582 [.null, x1] (st) σ ρ g τ Q = AW d 164 583 [.null, x1] (.null :: st) σ ρ g τ Q := aw_lc m164 d164_582 rfl rfl rfl
theorem d164_583 : decode cX12_init 583 = .ok (.getfield 106, 3) := by decide +kernel
theorem s164_583 {d : Nat} {st : List Value} {σ : am_I} {ρ : am_R} {g : am_J} {τ : am_T} {Q : am_Q} {x0 x1 : Value} {a : Nat} (ht : τ.1 a = 12) : AW d 164 583 [x0, x1] (.ref a :: st) σ ρ g τ Q = AW d 164 586 [x0, x1] (va_rf (ρ a 32) :: st) σ ρ g τ Q := aw_gr m164 d164_583 rfl rfl rfl ht
theorem d164_586 : decode cX12_init 586 = .ok (.aastore, 1) := by decide +kernel
theorem s164_586 {d : Nat} {st : List Value} {σ : am_I} {ρ : am_R} {g : am_J} {τ : am_T} {Q : am_Q} {x0 x1 : Value} {a b : Nat} {j : Int32} (ht : 18 ≤ τ.1 a ∧ τ.1 a ≤ 22) (hj : am_inb j (τ.2.1 a) = true) (hb : τ.1 b = am_elK (τ.1 a)) (hb2 : b < am_BG) : AW d 164 586 [x0, x1] (.ref b :: .int j :: .ref a :: st) σ ρ g τ Q = AW d 164 587 [x0, x1] (st) σ (am_u ρ a j.toNatClampNeg (some b)) g τ Q := aw_aas m164 d164_586 rfl ht hj hb hb2
theorem d164_587 : decode cX12_init 587 = .ok (.dup, 1) := by decide +kernel
theorem s164_587 {d : Nat} {st : List Value} {σ : am_I} {ρ : am_R} {g : am_J} {τ : am_T} {Q : am_Q} {x0 x1 : Value} {v : Int32} : AW d 164 587 [x0, x1] (.int v :: st) σ ρ g τ Q = AW d 164 588 [x0, x1] (.int v :: .int v :: st) σ ρ g τ Q := aw_lc m164 d164_587 rfl rfl rfl
theorem s164_587r {d : Nat} {st : List Value} {σ : am_I} {ρ : am_R} {g : am_J} {τ : am_T} {Q : am_Q} {x0 x1 : Value} {v : Nat} : AW d 164 587 [x0, x1] (.ref v :: st) σ ρ g τ Q = AW d 164 588 [x0, x1] (.ref v :: .ref v :: st) σ ρ g τ Q := aw_lc m164 d164_587 rfl rfl rfl
theorem d164_588 : decode cX12_init 588 = .ok (.bipush 33, 2) := by decide +kernel
theorem s164_588 {d : Nat} {st : List Value} {σ : am_I} {ρ : am_R} {g : am_J} {τ : am_T} {Q : am_Q} {x0 x1 : Value} : AW d 164 588 [x0, x1] (st) σ ρ g τ Q = AW d 164 590 [x0, x1] (.int 33 :: st) σ ρ g τ Q := aw_lc m164 d164_588 rfl rfl rfl
theorem d164_590 : decode cX12_init 590 = .ok (.aload_n 0, 1) := by decide +kernel
theorem s164_590 {d : Nat} {st : List Value} {σ : am_I} {ρ : am_R} {g : am_J} {τ : am_T} {Q : am_Q} {x1 : Value} {v : Nat} : AW d 164 590 [.ref v, x1] (st) σ ρ g τ Q = AW d 164 591 [.ref v, x1] (.ref v :: st) σ ρ g τ Q := aw_lc m164 d164_590 rfl rfl rfl
theorem s164_590n {d : Nat} {st : List Value} {σ : am_I} {ρ : am_R} {g : am_J} {τ : am_T} {Q : am_Q} {x1 : Value} : AW d 164 590 [.null, x1] (st) σ ρ g τ Q = AW d 164 591 [.null, x1] (.null :: st) σ ρ g τ Q := aw_lc m164 d164_590 rfl rfl rfl
theorem d164_591 : decode cX12_init 591 = .ok (.getfield 109, 3) := by decide +kernel
theorem s164_591 {d : Nat} {st : List Value} {σ : am_I} {ρ : am_R} {g : am_J} {τ : am_T} {Q : am_Q} {x0 x1 : Value} {a : Nat} (ht : τ.1 a = 12) : AW d 164 591 [x0, x1] (.ref a :: st) σ ρ g τ Q = AW d 164 594 [x0, x1] (va_rf (ρ a 33) :: st) σ ρ g τ Q := aw_gr m164 d164_591 rfl rfl rfl ht
theorem d164_594 : decode cX12_init 594 = .ok (.aastore, 1) := by decide +kernel
theorem s164_594 {d : Nat} {st : List Value} {σ : am_I} {ρ : am_R} {g : am_J} {τ : am_T} {Q : am_Q} {x0 x1 : Value} {a b : Nat} {j : Int32} (ht : 18 ≤ τ.1 a ∧ τ.1 a ≤ 22) (hj : am_inb j (τ.2.1 a) = true) (hb : τ.1 b = am_elK (τ.1 a)) (hb2 : b < am_BG) : AW d 164 594 [x0, x1] (.ref b :: .int j :: .ref a :: st) σ ρ g τ Q = AW d 164 595 [x0, x1] (st) σ (am_u ρ a j.toNatClampNeg (some b)) g τ Q := aw_aas m164 d164_594 rfl ht hj hb hb2
theorem d164_595 : decode cX12_init 595 = .ok (.dup, 1) := by decide +kernel
theorem s164_595 {d : Nat} {st : List Value} {σ : am_I} {ρ : am_R} {g : am_J} {τ : am_T} {Q : am_Q} {x0 x1 : Value} {v : Int32} : AW d 164 595 [x0, x1] (.int v :: st) σ ρ g τ Q = AW d 164 596 [x0, x1] (.int v :: .int v :: st) σ ρ g τ Q := aw_lc m164 d164_595 rfl rfl rfl
theorem s164_595r {d : Nat} {st : List Value} {σ : am_I} {ρ : am_R} {g : am_J} {τ : am_T} {Q : am_Q} {x0 x1 : Value} {v : Nat} : AW d 164 595 [x0, x1] (.ref v :: st) σ ρ g τ Q = AW d 164 596 [x0, x1] (.ref v :: .ref v :: st) σ ρ g τ Q := aw_lc m164 d164_595 rfl rfl rfl
theorem d164_596 : decode cX12_init 596 = .ok (.bipush 34, 2) := by decide +kernel
theorem s164_596 {d : Nat} {st : List Value} {σ : am_I} {ρ : am_R} {g : am_J} {τ : am_T} {Q : am_Q} {x0 x1 : Value} : AW d 164 596 [x0, x1] (st) σ ρ g τ Q = AW d 164 598 [x0, x1] (.int 34 :: st) σ ρ g τ Q := aw_lc m164 d164_596 rfl rfl rfl
theorem d164_598 : decode cX12_init 598 = .ok (.aload_n 0, 1) := by decide +kernel
theorem s164_598 {d : Nat} {st : List Value} {σ : am_I} {ρ : am_R} {g : am_J} {τ : am_T} {Q : am_Q} {x1 : Value} {v : Nat} : AW d 164 598 [.ref v, x1] (st) σ ρ g τ Q = AW d 164 599 [.ref v, x1] (.ref v :: st) σ ρ g τ Q := aw_lc m164 d164_598 rfl rfl rfl
theorem s164_598n {d : Nat} {st : List Value} {σ : am_I} {ρ : am_R} {g : am_J} {τ : am_T} {Q : am_Q} {x1 : Value} : AW d 164 598 [.null, x1] (st) σ ρ g τ Q = AW d 164 599 [.null, x1] (.null :: st) σ ρ g τ Q := aw_lc m164 d164_598 rfl rfl rfl
theorem d164_599 : decode cX12_init 599 = .ok (.getfield 112, 3) := by decide +kernel
theorem s164_599 {d : Nat} {st : List Value} {σ : am_I} {ρ : am_R} {g : am_J} {τ : am_T} {Q : am_Q} {x0 x1 : Value} {a : Nat} (ht : τ.1 a = 12) : AW d 164 599 [x0, x1] (.ref a :: st) σ ρ g τ Q = AW d 164 602 [x0, x1] (va_rf (ρ a 34) :: st) σ ρ g τ Q := aw_gr m164 d164_599 rfl rfl rfl ht
theorem d164_602 : decode cX12_init 602 = .ok (.aastore, 1) := by decide +kernel
theorem s164_602 {d : Nat} {st : List Value} {σ : am_I} {ρ : am_R} {g : am_J} {τ : am_T} {Q : am_Q} {x0 x1 : Value} {a b : Nat} {j : Int32} (ht : 18 ≤ τ.1 a ∧ τ.1 a ≤ 22) (hj : am_inb j (τ.2.1 a) = true) (hb : τ.1 b = am_elK (τ.1 a)) (hb2 : b < am_BG) : AW d 164 602 [x0, x1] (.ref b :: .int j :: .ref a :: st) σ ρ g τ Q = AW d 164 603 [x0, x1] (st) σ (am_u ρ a j.toNatClampNeg (some b)) g τ Q := aw_aas m164 d164_602 rfl ht hj hb hb2
theorem d164_603 : decode cX12_init 603 = .ok (.dup, 1) := by decide +kernel
theorem s164_603 {d : Nat} {st : List Value} {σ : am_I} {ρ : am_R} {g : am_J} {τ : am_T} {Q : am_Q} {x0 x1 : Value} {v : Int32} : AW d 164 603 [x0, x1] (.int v :: st) σ ρ g τ Q = AW d 164 604 [x0, x1] (.int v :: .int v :: st) σ ρ g τ Q := aw_lc m164 d164_603 rfl rfl rfl
theorem s164_603r {d : Nat} {st : List Value} {σ : am_I} {ρ : am_R} {g : am_J} {τ : am_T} {Q : am_Q} {x0 x1 : Value} {v : Nat} : AW d 164 603 [x0, x1] (.ref v :: st) σ ρ g τ Q = AW d 164 604 [x0, x1] (.ref v :: .ref v :: st) σ ρ g τ Q := aw_lc m164 d164_603 rfl rfl rfl
theorem d164_604 : decode cX12_init 604 = .ok (.bipush 35, 2) := by decide +kernel
theorem s164_604 {d : Nat} {st : List Value} {σ : am_I} {ρ : am_R} {g : am_J} {τ : am_T} {Q : am_Q} {x0 x1 : Value} : AW d 164 604 [x0, x1] (st) σ ρ g τ Q = AW d 164 606 [x0, x1] (.int 35 :: st) σ ρ g τ Q := aw_lc m164 d164_604 rfl rfl rfl
theorem d164_606 : decode cX12_init 606 = .ok (.aload_n 0, 1) := by decide +kernel
theorem s164_606 {d : Nat} {st : List Value} {σ : am_I} {ρ : am_R} {g : am_J} {τ : am_T} {Q : am_Q} {x1 : Value} {v : Nat} : AW d 164 606 [.ref v, x1] (st) σ ρ g τ Q = AW d 164 607 [.ref v, x1] (.ref v :: st) σ ρ g τ Q := aw_lc m164 d164_606 rfl rfl rfl
theorem s164_606n {d : Nat} {st : List Value} {σ : am_I} {ρ : am_R} {g : am_J} {τ : am_T} {Q : am_Q} {x1 : Value} : AW d 164 606 [.null, x1] (st) σ ρ g τ Q = AW d 164 607 [.null, x1] (.null :: st) σ ρ g τ Q := aw_lc m164 d164_606 rfl rfl rfl
theorem d164_607 : decode cX12_init 607 = .ok (.getfield 115, 3) := by decide +kernel
theorem s164_607 {d : Nat} {st : List Value} {σ : am_I} {ρ : am_R} {g : am_J} {τ : am_T} {Q : am_Q} {x0 x1 : Value} {a : Nat} (ht : τ.1 a = 12) : AW d 164 607 [x0, x1] (.ref a :: st) σ ρ g τ Q = AW d 164 610 [x0, x1] (va_rf (ρ a 35) :: st) σ ρ g τ Q := aw_gr m164 d164_607 rfl rfl rfl ht
theorem d164_610 : decode cX12_init 610 = .ok (.aastore, 1) := by decide +kernel
theorem s164_610 {d : Nat} {st : List Value} {σ : am_I} {ρ : am_R} {g : am_J} {τ : am_T} {Q : am_Q} {x0 x1 : Value} {a b : Nat} {j : Int32} (ht : 18 ≤ τ.1 a ∧ τ.1 a ≤ 22) (hj : am_inb j (τ.2.1 a) = true) (hb : τ.1 b = am_elK (τ.1 a)) (hb2 : b < am_BG) : AW d 164 610 [x0, x1] (.ref b :: .int j :: .ref a :: st) σ ρ g τ Q = AW d 164 611 [x0, x1] (st) σ (am_u ρ a j.toNatClampNeg (some b)) g τ Q := aw_aas m164 d164_610 rfl ht hj hb hb2
theorem d164_611 : decode cX12_init 611 = .ok (.dup, 1) := by decide +kernel
theorem s164_611 {d : Nat} {st : List Value} {σ : am_I} {ρ : am_R} {g : am_J} {τ : am_T} {Q : am_Q} {x0 x1 : Value} {v : Int32} : AW d 164 611 [x0, x1] (.int v :: st) σ ρ g τ Q = AW d 164 612 [x0, x1] (.int v :: .int v :: st) σ ρ g τ Q := aw_lc m164 d164_611 rfl rfl rfl
theorem s164_611r {d : Nat} {st : List Value} {σ : am_I} {ρ : am_R} {g : am_J} {τ : am_T} {Q : am_Q} {x0 x1 : Value} {v : Nat} : AW d 164 611 [x0, x1] (.ref v :: st) σ ρ g τ Q = AW d 164 612 [x0, x1] (.ref v :: .ref v :: st) σ ρ g τ Q := aw_lc m164 d164_611 rfl rfl rfl
theorem d164_612 : decode cX12_init 612 = .ok (.bipush 36, 2) := by decide +kernel
theorem s164_612 {d : Nat} {st : List Value} {σ : am_I} {ρ : am_R} {g : am_J} {τ : am_T} {Q : am_Q} {x0 x1 : Value} : AW d 164 612 [x0, x1] (st) σ ρ g τ Q = AW d 164 614 [x0, x1] (.int 36 :: st) σ ρ g τ Q := aw_lc m164 d164_612 rfl rfl rfl
theorem d164_614 : decode cX12_init 614 = .ok (.aload_n 0, 1) := by decide +kernel
theorem s164_614 {d : Nat} {st : List Value} {σ : am_I} {ρ : am_R} {g : am_J} {τ : am_T} {Q : am_Q} {x1 : Value} {v : Nat} : AW d 164 614 [.ref v, x1] (st) σ ρ g τ Q = AW d 164 615 [.ref v, x1] (.ref v :: st) σ ρ g τ Q := aw_lc m164 d164_614 rfl rfl rfl
theorem s164_614n {d : Nat} {st : List Value} {σ : am_I} {ρ : am_R} {g : am_J} {τ : am_T} {Q : am_Q} {x1 : Value} : AW d 164 614 [.null, x1] (st) σ ρ g τ Q = AW d 164 615 [.null, x1] (.null :: st) σ ρ g τ Q := aw_lc m164 d164_614 rfl rfl rfl
theorem d164_615 : decode cX12_init 615 = .ok (.getfield 118, 3) := by decide +kernel
theorem s164_615 {d : Nat} {st : List Value} {σ : am_I} {ρ : am_R} {g : am_J} {τ : am_T} {Q : am_Q} {x0 x1 : Value} {a : Nat} (ht : τ.1 a = 12) : AW d 164 615 [x0, x1] (.ref a :: st) σ ρ g τ Q = AW d 164 618 [x0, x1] (va_rf (ρ a 36) :: st) σ ρ g τ Q := aw_gr m164 d164_615 rfl rfl rfl ht
theorem d164_618 : decode cX12_init 618 = .ok (.aastore, 1) := by decide +kernel
theorem s164_618 {d : Nat} {st : List Value} {σ : am_I} {ρ : am_R} {g : am_J} {τ : am_T} {Q : am_Q} {x0 x1 : Value} {a b : Nat} {j : Int32} (ht : 18 ≤ τ.1 a ∧ τ.1 a ≤ 22) (hj : am_inb j (τ.2.1 a) = true) (hb : τ.1 b = am_elK (τ.1 a)) (hb2 : b < am_BG) : AW d 164 618 [x0, x1] (.ref b :: .int j :: .ref a :: st) σ ρ g τ Q = AW d 164 619 [x0, x1] (st) σ (am_u ρ a j.toNatClampNeg (some b)) g τ Q := aw_aas m164 d164_618 rfl ht hj hb hb2
theorem d164_619 : decode cX12_init 619 = .ok (.dup, 1) := by decide +kernel
theorem s164_619 {d : Nat} {st : List Value} {σ : am_I} {ρ : am_R} {g : am_J} {τ : am_T} {Q : am_Q} {x0 x1 : Value} {v : Int32} : AW d 164 619 [x0, x1] (.int v :: st) σ ρ g τ Q = AW d 164 620 [x0, x1] (.int v :: .int v :: st) σ ρ g τ Q := aw_lc m164 d164_619 rfl rfl rfl
theorem s164_619r {d : Nat} {st : List Value} {σ : am_I} {ρ : am_R} {g : am_J} {τ : am_T} {Q : am_Q} {x0 x1 : Value} {v : Nat} : AW d 164 619 [x0, x1] (.ref v :: st) σ ρ g τ Q = AW d 164 620 [x0, x1] (.ref v :: .ref v :: st) σ ρ g τ Q := aw_lc m164 d164_619 rfl rfl rfl
theorem d164_620 : decode cX12_init 620 = .ok (.bipush 37, 2) := by decide +kernel
theorem s164_620 {d : Nat} {st : List Value} {σ : am_I} {ρ : am_R} {g : am_J} {τ : am_T} {Q : am_Q} {x0 x1 : Value} : AW d 164 620 [x0, x1] (st) σ ρ g τ Q = AW d 164 622 [x0, x1] (.int 37 :: st) σ ρ g τ Q := aw_lc m164 d164_620 rfl rfl rfl
theorem d164_622 : decode cX12_init 622 = .ok (.aload_n 0, 1) := by decide +kernel
theorem s164_622 {d : Nat} {st : List Value} {σ : am_I} {ρ : am_R} {g : am_J} {τ : am_T} {Q : am_Q} {x1 : Value} {v : Nat} : AW d 164 622 [.ref v, x1] (st) σ ρ g τ Q = AW d 164 623 [.ref v, x1] (.ref v :: st) σ ρ g τ Q := aw_lc m164 d164_622 rfl rfl rfl
theorem s164_622n {d : Nat} {st : List Value} {σ : am_I} {ρ : am_R} {g : am_J} {τ : am_T} {Q : am_Q} {x1 : Value} : AW d 164 622 [.null, x1] (st) σ ρ g τ Q = AW d 164 623 [.null, x1] (.null :: st) σ ρ g τ Q := aw_lc m164 d164_622 rfl rfl rfl
theorem d164_623 : decode cX12_init 623 = .ok (.getfield 121, 3) := by decide +kernel
theorem s164_623 {d : Nat} {st : List Value} {σ : am_I} {ρ : am_R} {g : am_J} {τ : am_T} {Q : am_Q} {x0 x1 : Value} {a : Nat} (ht : τ.1 a = 12) : AW d 164 623 [x0, x1] (.ref a :: st) σ ρ g τ Q = AW d 164 626 [x0, x1] (va_rf (ρ a 37) :: st) σ ρ g τ Q := aw_gr m164 d164_623 rfl rfl rfl ht
theorem d164_626 : decode cX12_init 626 = .ok (.aastore, 1) := by decide +kernel
theorem s164_626 {d : Nat} {st : List Value} {σ : am_I} {ρ : am_R} {g : am_J} {τ : am_T} {Q : am_Q} {x0 x1 : Value} {a b : Nat} {j : Int32} (ht : 18 ≤ τ.1 a ∧ τ.1 a ≤ 22) (hj : am_inb j (τ.2.1 a) = true) (hb : τ.1 b = am_elK (τ.1 a)) (hb2 : b < am_BG) : AW d 164 626 [x0, x1] (.ref b :: .int j :: .ref a :: st) σ ρ g τ Q = AW d 164 627 [x0, x1] (st) σ (am_u ρ a j.toNatClampNeg (some b)) g τ Q := aw_aas m164 d164_626 rfl ht hj hb hb2
theorem d164_627 : decode cX12_init 627 = .ok (.dup, 1) := by decide +kernel
theorem s164_627 {d : Nat} {st : List Value} {σ : am_I} {ρ : am_R} {g : am_J} {τ : am_T} {Q : am_Q} {x0 x1 : Value} {v : Int32} : AW d 164 627 [x0, x1] (.int v :: st) σ ρ g τ Q = AW d 164 628 [x0, x1] (.int v :: .int v :: st) σ ρ g τ Q := aw_lc m164 d164_627 rfl rfl rfl
theorem s164_627r {d : Nat} {st : List Value} {σ : am_I} {ρ : am_R} {g : am_J} {τ : am_T} {Q : am_Q} {x0 x1 : Value} {v : Nat} : AW d 164 627 [x0, x1] (.ref v :: st) σ ρ g τ Q = AW d 164 628 [x0, x1] (.ref v :: .ref v :: st) σ ρ g τ Q := aw_lc m164 d164_627 rfl rfl rfl
theorem d164_628 : decode cX12_init 628 = .ok (.bipush 38, 2) := by decide +kernel
theorem s164_628 {d : Nat} {st : List Value} {σ : am_I} {ρ : am_R} {g : am_J} {τ : am_T} {Q : am_Q} {x0 x1 : Value} : AW d 164 628 [x0, x1] (st) σ ρ g τ Q = AW d 164 630 [x0, x1] (.int 38 :: st) σ ρ g τ Q := aw_lc m164 d164_628 rfl rfl rfl
theorem d164_630 : decode cX12_init 630 = .ok (.aload_n 0, 1) := by decide +kernel
theorem s164_630 {d : Nat} {st : List Value} {σ : am_I} {ρ : am_R} {g : am_J} {τ : am_T} {Q : am_Q} {x1 : Value} {v : Nat} : AW d 164 630 [.ref v, x1] (st) σ ρ g τ Q = AW d 164 631 [.ref v, x1] (.ref v :: st) σ ρ g τ Q := aw_lc m164 d164_630 rfl rfl rfl
theorem s164_630n {d : Nat} {st : List Value} {σ : am_I} {ρ : am_R} {g : am_J} {τ : am_T} {Q : am_Q} {x1 : Value} : AW d 164 630 [.null, x1] (st) σ ρ g τ Q = AW d 164 631 [.null, x1] (.null :: st) σ ρ g τ Q := aw_lc m164 d164_630 rfl rfl rfl
theorem d164_631 : decode cX12_init 631 = .ok (.getfield 124, 3) := by decide +kernel
theorem s164_631 {d : Nat} {st : List Value} {σ : am_I} {ρ : am_R} {g : am_J} {τ : am_T} {Q : am_Q} {x0 x1 : Value} {a : Nat} (ht : τ.1 a = 12) : AW d 164 631 [x0, x1] (.ref a :: st) σ ρ g τ Q = AW d 164 634 [x0, x1] (va_rf (ρ a 38) :: st) σ ρ g τ Q := aw_gr m164 d164_631 rfl rfl rfl ht
theorem d164_634 : decode cX12_init 634 = .ok (.aastore, 1) := by decide +kernel
theorem s164_634 {d : Nat} {st : List Value} {σ : am_I} {ρ : am_R} {g : am_J} {τ : am_T} {Q : am_Q} {x0 x1 : Value} {a b : Nat} {j : Int32} (ht : 18 ≤ τ.1 a ∧ τ.1 a ≤ 22) (hj : am_inb j (τ.2.1 a) = true) (hb : τ.1 b = am_elK (τ.1 a)) (hb2 : b < am_BG) : AW d 164 634 [x0, x1] (.ref b :: .int j :: .ref a :: st) σ ρ g τ Q = AW d 164 635 [x0, x1] (st) σ (am_u ρ a j.toNatClampNeg (some b)) g τ Q := aw_aas m164 d164_634 rfl ht hj hb hb2
theorem d164_635 : decode cX12_init 635 = .ok (.dup, 1) := by decide +kernel
theorem s164_635 {d : Nat} {st : List Value} {σ : am_I} {ρ : am_R} {g : am_J} {τ : am_T} {Q : am_Q} {x0 x1 : Value} {v : Int32} : AW d 164 635 [x0, x1] (.int v :: st) σ ρ g τ Q = AW d 164 636 [x0, x1] (.int v :: .int v :: st) σ ρ g τ Q := aw_lc m164 d164_635 rfl rfl rfl
theorem s164_635r {d : Nat} {st : List Value} {σ : am_I} {ρ : am_R} {g : am_J} {τ : am_T} {Q : am_Q} {x0 x1 : Value} {v : Nat} : AW d 164 635 [x0, x1] (.ref v :: st) σ ρ g τ Q = AW d 164 636 [x0, x1] (.ref v :: .ref v :: st) σ ρ g τ Q := aw_lc m164 d164_635 rfl rfl rfl
theorem d164_636 : decode cX12_init 636 = .ok (.bipush 39, 2) := by decide +kernel
theorem s164_636 {d : Nat} {st : List Value} {σ : am_I} {ρ : am_R} {g : am_J} {τ : am_T} {Q : am_Q} {x0 x1 : Value} : AW d 164 636 [x0, x1] (st) σ ρ g τ Q = AW d 164 638 [x0, x1] (.int 39 :: st) σ ρ g τ Q := aw_lc m164 d164_636 rfl rfl rfl
theorem d164_638 : decode cX12_init 638 = .ok (.aload_n 0, 1) := by decide +kernel
theorem s164_638 {d : Nat} {st : List Value} {σ : am_I} {ρ : am_R} {g : am_J} {τ : am_T} {Q : am_Q} {x1 : Value} {v : Nat} : AW d 164 638 [.ref v, x1] (st) σ ρ g τ Q = AW d 164 639 [.ref v, x1] (.ref v :: st) σ ρ g τ Q := aw_lc m164 d164_638 rfl rfl rfl
theorem s164_638n {d : Nat} {st : List Value} {σ : am_I} {ρ : am_R} {g : am_J} {τ : am_T} {Q : am_Q} {x1 : Value} : AW d 164 638 [.null, x1] (st) σ ρ g τ Q = AW d 164 639 [.null, x1] (.null :: st) σ ρ g τ Q := aw_lc m164 d164_638 rfl rfl rfl
theorem d164_639 : decode cX12_init 639 = .ok (.getfield 127, 3) := by decide +kernel
theorem s164_639 {d : Nat} {st : List Value} {σ : am_I} {ρ : am_R} {g : am_J} {τ : am_T} {Q : am_Q} {x0 x1 : Value} {a : Nat} (ht : τ.1 a = 12) : AW d 164 639 [x0, x1] (.ref a :: st) σ ρ g τ Q = AW d 164 642 [x0, x1] (va_rf (ρ a 39) :: st) σ ρ g τ Q := aw_gr m164 d164_639 rfl rfl rfl ht
theorem d164_642 : decode cX12_init 642 = .ok (.aastore, 1) := by decide +kernel
theorem s164_642 {d : Nat} {st : List Value} {σ : am_I} {ρ : am_R} {g : am_J} {τ : am_T} {Q : am_Q} {x0 x1 : Value} {a b : Nat} {j : Int32} (ht : 18 ≤ τ.1 a ∧ τ.1 a ≤ 22) (hj : am_inb j (τ.2.1 a) = true) (hb : τ.1 b = am_elK (τ.1 a)) (hb2 : b < am_BG) : AW d 164 642 [x0, x1] (.ref b :: .int j :: .ref a :: st) σ ρ g τ Q = AW d 164 643 [x0, x1] (st) σ (am_u ρ a j.toNatClampNeg (some b)) g τ Q := aw_aas m164 d164_642 rfl ht hj hb hb2
theorem d164_643 : decode cX12_init 643 = .ok (.putfield 131, 3) := by decide +kernel
theorem s164_643 {d : Nat} {st : List Value} {σ : am_I} {ρ : am_R} {g : am_J} {τ : am_T} {Q : am_Q} {x0 x1 : Value} {a b : Nat} (ht : τ.1 a = 12) : AW d 164 643 [x0, x1] (.ref b :: .ref a :: st) σ ρ g τ Q = AW d 164 646 [x0, x1] (st) σ (am_u ρ a 40 (some b)) g τ Q := aw_pr m164 d164_643 rfl rfl (Or.inr ⟨rfl, rfl⟩) rfl ht
theorem s164_643n {d : Nat} {st : List Value} {σ : am_I} {ρ : am_R} {g : am_J} {τ : am_T} {Q : am_Q} {x0 x1 : Value} {a : Nat} (ht : τ.1 a = 12) : AW d 164 643 [x0, x1] (.null :: .ref a :: st) σ ρ g τ Q = AW d 164 646 [x0, x1] (st) σ (am_u ρ a 40 none) g τ Q := aw_pn m164 d164_643 rfl rfl (Or.inr ⟨rfl, rfl⟩) rfl ht
theorem d164_646 : decode cX12_init 646 = .ok (.aload_n 0, 1) := by decide +kernel
theorem s164_646 {d : Nat} {st : List Value} {σ : am_I} {ρ : am_R} {g : am_J} {τ : am_T} {Q : am_Q} {x1 : Value} {v : Nat} : AW d 164 646 [.ref v, x1] (st) σ ρ g τ Q = AW d 164 647 [.ref v, x1] (.ref v :: st) σ ρ g τ Q := aw_lc m164 d164_646 rfl rfl rfl
theorem s164_646n {d : Nat} {st : List Value} {σ : am_I} {ρ : am_R} {g : am_J} {τ : am_T} {Q : am_Q} {x1 : Value} : AW d 164 646 [.null, x1] (st) σ ρ g τ Q = AW d 164 647 [.null, x1] (.null :: st) σ ρ g τ Q := aw_lc m164 d164_646 rfl rfl rfl
theorem d164_647 : decode cX12_init 647 = .ok (.bipush 40, 2) := by decide +kernel
theorem s164_647 {d : Nat} {st : List Value} {σ : am_I} {ρ : am_R} {g : am_J} {τ : am_T} {Q : am_Q} {x0 x1 : Value} : AW d 164 647 [x0, x1] (st) σ ρ g τ Q = AW d 164 649 [x0, x1] (.int 40 :: st) σ ρ g τ Q := aw_lc m164 d164_647 rfl rfl rfl
theorem d164_649 : decode cX12_init 649 = .ok (.anewarray 130, 3) := by decide +kernel
theorem s164_649 {d : Nat} {st : List Value} {σ : am_I} {ρ : am_R} {g : am_J} {τ : am_T} {Q : am_Q} {x0 x1 : Value} {j : Int32} (hj : ¬ j < 0 ∧ j.toNatClampNeg ≤ 10000) : AW d 164 649 [x0, x1] (.int j :: st) σ ρ g τ Q = AW d 164 652 [x0, x1] (.ref τ.2.2.1 :: st) (am_new 22 j.toNatClampNeg σ ρ g τ).1 (am_new 22 j.toNatClampNeg σ ρ g τ).2.1 (am_new 22 j.toNatClampNeg σ ρ g τ).2.2.1 (am_new 22 j.toNatClampNeg σ ρ g τ).2.2.2 Q := aw_anA m164 d164_649 rfl rfl hj
theorem d164_652 : decode cX12_init 652 = .ok (.putfield 135, 3) := by decide +kernel
theorem s164_652 {d : Nat} {st : List Value} {σ : am_I} {ρ : am_R} {g : am_J} {τ : am_T} {Q : am_Q} {x0 x1 : Value} {a b : Nat} (ht : τ.1 a = 12) : AW d 164 652 [x0, x1] (.ref b :: .ref a :: st) σ ρ g τ Q = AW d 164 655 [x0, x1] (st) σ (am_u ρ a 41 (some b)) g τ Q := aw_pr m164 d164_652 rfl rfl (Or.inr ⟨rfl, rfl⟩) rfl ht
theorem s164_652n {d : Nat} {st : List Value} {σ : am_I} {ρ : am_R} {g : am_J} {τ : am_T} {Q : am_Q} {x0 x1 : Value} {a : Nat} (ht : τ.1 a = 12) : AW d 164 652 [x0, x1] (.null :: .ref a :: st) σ ρ g τ Q = AW d 164 655 [x0, x1] (st) σ (am_u ρ a 41 none) g τ Q := aw_pn m164 d164_652 rfl rfl (Or.inr ⟨rfl, rfl⟩) rfl ht
theorem d164_655 : decode cX12_init 655 = .ok (.aload_n 0, 1) := by decide +kernel
theorem s164_655 {d : Nat} {st : List Value} {σ : am_I} {ρ : am_R} {g : am_J} {τ : am_T} {Q : am_Q} {x1 : Value} {v : Nat} : AW d 164 655 [.ref v, x1] (st) σ ρ g τ Q = AW d 164 656 [.ref v, x1] (.ref v :: st) σ ρ g τ Q := aw_lc m164 d164_655 rfl rfl rfl
theorem s164_655n {d : Nat} {st : List Value} {σ : am_I} {ρ : am_R} {g : am_J} {τ : am_T} {Q : am_Q} {x1 : Value} : AW d 164 655 [.null, x1] (st) σ ρ g τ Q = AW d 164 656 [.null, x1] (.null :: st) σ ρ g τ Q := aw_lc m164 d164_655 rfl rfl rfl
theorem d164_656 : decode cX12_init 656 = .ok (.sipush 240, 3) := by decide +kernel
theorem s164_656 {d : Nat} {st : List Value} {σ : am_I} {ρ : am_R} {g : am_J} {τ : am_T} {Q : am_Q} {x0 x1 : Value} : AW d 164 656 [x0, x1] (st) σ ρ g τ Q = AW d 164 659 [x0, x1] (.int 240 :: st) σ ρ g τ Q := aw_lc m164 d164_656 rfl rfl rfl
theorem d164_659 : decode cX12_init 659 = .ok (.newarray .int, 2) := by decide +kernel
theorem s164_659 {d : Nat} {st : List Value} {σ : am_I} {ρ : am_R} {g : am_J} {τ : am_T} {Q : am_Q} {x0 x1 : Value} {j : Int32} (hj : ¬ j < 0 ∧ j.toNatClampNeg ≤ 10000) : AW d 164 659 [x0, x1] (.int j :: st) σ ρ g τ Q = AW d 164 661 [x0, x1] (.ref τ.2.2.1 :: st) (am_new 15 j.toNatClampNeg σ ρ g τ).1 (am_new 15 j.toNatClampNeg σ ρ g τ).2.1 (am_new 15 j.toNatClampNeg σ ρ g τ).2.2.1 (am_new 15 j.toNatClampNeg σ ρ g τ).2.2.2 Q := aw_nwa m164 d164_659 rfl rfl (by decide) hj
theorem d164_661 : decode cX12_init 661 = .ok (.putfield 138, 3) := by decide +kernel
theorem s164_661 {d : Nat} {st : List Value} {σ : am_I} {ρ : am_R} {g : am_J} {τ : am_T} {Q : am_Q} {x0 x1 : Value} {a b : Nat} (ht : τ.1 a = 12) : AW d 164 661 [x0, x1] (.ref b :: .ref a :: st) σ ρ g τ Q = AW d 164 664 [x0, x1] (st) σ (am_u ρ a 43 (some b)) g τ Q := aw_pr m164 d164_661 rfl rfl (Or.inr ⟨rfl, rfl⟩) rfl ht
theorem s164_661n {d : Nat} {st : List Value} {σ : am_I} {ρ : am_R} {g : am_J} {τ : am_T} {Q : am_Q} {x0 x1 : Value} {a : Nat} (ht : τ.1 a = 12) : AW d 164 661 [x0, x1] (.null :: .ref a :: st) σ ρ g τ Q = AW d 164 664 [x0, x1] (st) σ (am_u ρ a 43 none) g τ Q := aw_pn m164 d164_661 rfl rfl (Or.inr ⟨rfl, rfl⟩) rfl ht
theorem d164_664 : decode cX12_init 664 = .ok (.aload_n 0, 1) := by decide +kernel
theorem s164_664 {d : Nat} {st : List Value} {σ : am_I} {ρ : am_R} {g : am_J} {τ : am_T} {Q : am_Q} {x1 : Value} {v : Nat} : AW d 164 664 [.ref v, x1] (st) σ ρ g τ Q = AW d 164 665 [.ref v, x1] (.ref v :: st) σ ρ g τ Q := aw_lc m164 d164_664 rfl rfl rfl
theorem s164_664n {d : Nat} {st : List Value} {σ : am_I} {ρ : am_R} {g : am_J} {τ : am_T} {Q : am_Q} {x1 : Value} : AW d 164 664 [.null, x1] (st) σ ρ g τ Q = AW d 164 665 [.null, x1] (.null :: st) σ ρ g τ Q := aw_lc m164 d164_664 rfl rfl rfl
theorem d164_665 : decode cX12_init 665 = .ok (.bipush 16, 2) := by decide +kernel
theorem s164_665 {d : Nat} {st : List Value} {σ : am_I} {ρ : am_R} {g : am_J} {τ : am_T} {Q : am_Q} {x0 x1 : Value} : AW d 164 665 [x0, x1] (st) σ ρ g τ Q = AW d 164 667 [x0, x1] (.int 16 :: st) σ ρ g τ Q := aw_lc m164 d164_665 rfl rfl rfl
theorem d164_667 : decode cX12_init 667 = .ok (.newarray .int, 2) := by decide +kernel
theorem s164_667 {d : Nat} {st : List Value} {σ : am_I} {ρ : am_R} {g : am_J} {τ : am_T} {Q : am_Q} {x0 x1 : Value} {j : Int32} (hj : ¬ j < 0 ∧ j.toNatClampNeg ≤ 10000) : AW d 164 667 [x0, x1] (.int j :: st) σ ρ g τ Q = AW d 164 669 [x0, x1] (.ref τ.2.2.1 :: st) (am_new 15 j.toNatClampNeg σ ρ g τ).1 (am_new 15 j.toNatClampNeg σ ρ g τ).2.1 (am_new 15 j.toNatClampNeg σ ρ g τ).2.2.1 (am_new 15 j.toNatClampNeg σ ρ g τ).2.2.2 Q := aw_nwa m164 d164_667 rfl rfl (by decide) hj
theorem d164_669 : decode cX12_init 669 = .ok (.putfield 141, 3) := by decide +kernel
theorem s164_669 {d : Nat} {st : List Value} {σ : am_I} {ρ : am_R} {g : am_J} {τ : am_T} {Q : am_Q} {x0 x1 : Value} {a b : Nat} (ht : τ.1 a = 12) : AW d 164 669 [x0, x1] (.ref b :: .ref a :: st) σ ρ g τ Q = AW d 164 672 [x0, x1] (st) σ (am_u ρ a 45 (some b)) g τ Q := aw_pr m164 d164_669 rfl rfl (Or.inr ⟨rfl, rfl⟩) rfl ht
theorem s164_669n {d : Nat} {st : List Value} {σ : am_I} {ρ : am_R} {g : am_J} {τ : am_T} {Q : am_Q} {x0 x1 : Value} {a : Nat} (ht : τ.1 a = 12) : AW d 164 669 [x0, x1] (.null :: .ref a :: st) σ ρ g τ Q = AW d 164 672 [x0, x1] (st) σ (am_u ρ a 45 none) g τ Q := aw_pn m164 d164_669 rfl rfl (Or.inr ⟨rfl, rfl⟩) rfl ht
theorem d164_672 : decode cX12_init 672 = .ok (.aload_n 0, 1) := by decide +kernel
theorem s164_672 {d : Nat} {st : List Value} {σ : am_I} {ρ : am_R} {g : am_J} {τ : am_T} {Q : am_Q} {x1 : Value} {v : Nat} : AW d 164 672 [.ref v, x1] (st) σ ρ g τ Q = AW d 164 673 [.ref v, x1] (.ref v :: st) σ ρ g τ Q := aw_lc m164 d164_672 rfl rfl rfl
theorem s164_672n {d : Nat} {st : List Value} {σ : am_I} {ρ : am_R} {g : am_J} {τ : am_T} {Q : am_Q} {x1 : Value} : AW d 164 672 [.null, x1] (st) σ ρ g τ Q = AW d 164 673 [.null, x1] (.null :: st) σ ρ g τ Q := aw_lc m164 d164_672 rfl rfl rfl
theorem d164_673 : decode cX12_init 673 = .ok (.bipush 16, 2) := by decide +kernel
theorem s164_673 {d : Nat} {st : List Value} {σ : am_I} {ρ : am_R} {g : am_J} {τ : am_T} {Q : am_Q} {x0 x1 : Value} : AW d 164 673 [x0, x1] (st) σ ρ g τ Q = AW d 164 675 [x0, x1] (.int 16 :: st) σ ρ g τ Q := aw_lc m164 d164_673 rfl rfl rfl
theorem d164_675 : decode cX12_init 675 = .ok (.newarray .int, 2) := by decide +kernel
theorem s164_675 {d : Nat} {st : List Value} {σ : am_I} {ρ : am_R} {g : am_J} {τ : am_T} {Q : am_Q} {x0 x1 : Value} {j : Int32} (hj : ¬ j < 0 ∧ j.toNatClampNeg ≤ 10000) : AW d 164 675 [x0, x1] (.int j :: st) σ ρ g τ Q = AW d 164 677 [x0, x1] (.ref τ.2.2.1 :: st) (am_new 15 j.toNatClampNeg σ ρ g τ).1 (am_new 15 j.toNatClampNeg σ ρ g τ).2.1 (am_new 15 j.toNatClampNeg σ ρ g τ).2.2.1 (am_new 15 j.toNatClampNeg σ ρ g τ).2.2.2 Q := aw_nwa m164 d164_675 rfl rfl (by decide) hj
theorem d164_677 : decode cX12_init 677 = .ok (.putfield 144, 3) := by decide +kernel
theorem s164_677 {d : Nat} {st : List Value} {σ : am_I} {ρ : am_R} {g : am_J} {τ : am_T} {Q : am_Q} {x0 x1 : Value} {a b : Nat} (ht : τ.1 a = 12) : AW d 164 677 [x0, x1] (.ref b :: .ref a :: st) σ ρ g τ Q = AW d 164 680 [x0, x1] (st) σ (am_u ρ a 46 (some b)) g τ Q := aw_pr m164 d164_677 rfl rfl (Or.inr ⟨rfl, rfl⟩) rfl ht
theorem s164_677n {d : Nat} {st : List Value} {σ : am_I} {ρ : am_R} {g : am_J} {τ : am_T} {Q : am_Q} {x0 x1 : Value} {a : Nat} (ht : τ.1 a = 12) : AW d 164 677 [x0, x1] (.null :: .ref a :: st) σ ρ g τ Q = AW d 164 680 [x0, x1] (st) σ (am_u ρ a 46 none) g τ Q := aw_pn m164 d164_677 rfl rfl (Or.inr ⟨rfl, rfl⟩) rfl ht
theorem d164_680 : decode cX12_init 680 = .ok (.aload_n 0, 1) := by decide +kernel
theorem s164_680 {d : Nat} {st : List Value} {σ : am_I} {ρ : am_R} {g : am_J} {τ : am_T} {Q : am_Q} {x1 : Value} {v : Nat} : AW d 164 680 [.ref v, x1] (st) σ ρ g τ Q = AW d 164 681 [.ref v, x1] (.ref v :: st) σ ρ g τ Q := aw_lc m164 d164_680 rfl rfl rfl
theorem s164_680n {d : Nat} {st : List Value} {σ : am_I} {ρ : am_R} {g : am_J} {τ : am_T} {Q : am_Q} {x1 : Value} : AW d 164 680 [.null, x1] (st) σ ρ g τ Q = AW d 164 681 [.null, x1] (.null :: st) σ ρ g τ Q := aw_lc m164 d164_680 rfl rfl rfl
theorem d164_681 : decode cX12_init 681 = .ok (.sipush 160, 3) := by decide +kernel
theorem s164_681 {d : Nat} {st : List Value} {σ : am_I} {ρ : am_R} {g : am_J} {τ : am_T} {Q : am_Q} {x0 x1 : Value} : AW d 164 681 [x0, x1] (st) σ ρ g τ Q = AW d 164 684 [x0, x1] (.int 160 :: st) σ ρ g τ Q := aw_lc m164 d164_681 rfl rfl rfl
theorem d164_684 : decode cX12_init 684 = .ok (.newarray .long, 2) := by decide +kernel
theorem s164_684 {d : Nat} {st : List Value} {σ : am_I} {ρ : am_R} {g : am_J} {τ : am_T} {Q : am_Q} {x0 x1 : Value} {j : Int32} (hj : ¬ j < 0 ∧ j.toNatClampNeg ≤ 10000) : AW d 164 684 [x0, x1] (.int j :: st) σ ρ g τ Q = AW d 164 686 [x0, x1] (.ref τ.2.2.1 :: st) (am_new 16 j.toNatClampNeg σ ρ g τ).1 (am_new 16 j.toNatClampNeg σ ρ g τ).2.1 (am_new 16 j.toNatClampNeg σ ρ g τ).2.2.1 (am_new 16 j.toNatClampNeg σ ρ g τ).2.2.2 Q := aw_nwa m164 d164_684 rfl rfl (by decide) hj
theorem d164_686 : decode cX12_init 686 = .ok (.putfield 147, 3) := by decide +kernel
theorem s164_686 {d : Nat} {st : List Value} {σ : am_I} {ρ : am_R} {g : am_J} {τ : am_T} {Q : am_Q} {x0 x1 : Value} {a b : Nat} (ht : τ.1 a = 12) : AW d 164 686 [x0, x1] (.ref b :: .ref a :: st) σ ρ g τ Q = AW d 164 689 [x0, x1] (st) σ (am_u ρ a 48 (some b)) g τ Q := aw_pr m164 d164_686 rfl rfl (Or.inr ⟨rfl, rfl⟩) rfl ht
theorem s164_686n {d : Nat} {st : List Value} {σ : am_I} {ρ : am_R} {g : am_J} {τ : am_T} {Q : am_Q} {x0 x1 : Value} {a : Nat} (ht : τ.1 a = 12) : AW d 164 686 [x0, x1] (.null :: .ref a :: st) σ ρ g τ Q = AW d 164 689 [x0, x1] (st) σ (am_u ρ a 48 none) g τ Q := aw_pn m164 d164_686 rfl rfl (Or.inr ⟨rfl, rfl⟩) rfl ht
theorem d164_689 : decode cX12_init 689 = .ok (.aload_n 0, 1) := by decide +kernel
theorem s164_689 {d : Nat} {st : List Value} {σ : am_I} {ρ : am_R} {g : am_J} {τ : am_T} {Q : am_Q} {x1 : Value} {v : Nat} : AW d 164 689 [.ref v, x1] (st) σ ρ g τ Q = AW d 164 690 [.ref v, x1] (.ref v :: st) σ ρ g τ Q := aw_lc m164 d164_689 rfl rfl rfl
theorem s164_689n {d : Nat} {st : List Value} {σ : am_I} {ρ : am_R} {g : am_J} {τ : am_T} {Q : am_Q} {x1 : Value} : AW d 164 689 [.null, x1] (st) σ ρ g τ Q = AW d 164 690 [.null, x1] (.null :: st) σ ρ g τ Q := aw_lc m164 d164_689 rfl rfl rfl
theorem d164_690 : decode cX12_init 690 = .ok (.iconst 4, 1) := by decide +kernel
theorem s164_690 {d : Nat} {st : List Value} {σ : am_I} {ρ : am_R} {g : am_J} {τ : am_T} {Q : am_Q} {x0 x1 : Value} : AW d 164 690 [x0, x1] (st) σ ρ g τ Q = AW d 164 691 [x0, x1] (.int 4 :: st) σ ρ g τ Q := aw_lc m164 d164_690 rfl rfl rfl
theorem d164_691 : decode cX12_init 691 = .ok (.newarray .int, 2) := by decide +kernel
theorem s164_691 {d : Nat} {st : List Value} {σ : am_I} {ρ : am_R} {g : am_J} {τ : am_T} {Q : am_Q} {x0 x1 : Value} {j : Int32} (hj : ¬ j < 0 ∧ j.toNatClampNeg ≤ 10000) : AW d 164 691 [x0, x1] (.int j :: st) σ ρ g τ Q = AW d 164 693 [x0, x1] (.ref τ.2.2.1 :: st) (am_new 15 j.toNatClampNeg σ ρ g τ).1 (am_new 15 j.toNatClampNeg σ ρ g τ).2.1 (am_new 15 j.toNatClampNeg σ ρ g τ).2.2.1 (am_new 15 j.toNatClampNeg σ ρ g τ).2.2.2 Q := aw_nwa m164 d164_691 rfl rfl (by decide) hj
theorem d164_693 : decode cX12_init 693 = .ok (.putfield 151, 3) := by decide +kernel
theorem s164_693 {d : Nat} {st : List Value} {σ : am_I} {ρ : am_R} {g : am_J} {τ : am_T} {Q : am_Q} {x0 x1 : Value} {a b : Nat} (ht : τ.1 a = 12) : AW d 164 693 [x0, x1] (.ref b :: .ref a :: st) σ ρ g τ Q = AW d 164 696 [x0, x1] (st) σ (am_u ρ a 49 (some b)) g τ Q := aw_pr m164 d164_693 rfl rfl (Or.inr ⟨rfl, rfl⟩) rfl ht
theorem s164_693n {d : Nat} {st : List Value} {σ : am_I} {ρ : am_R} {g : am_J} {τ : am_T} {Q : am_Q} {x0 x1 : Value} {a : Nat} (ht : τ.1 a = 12) : AW d 164 693 [x0, x1] (.null :: .ref a :: st) σ ρ g τ Q = AW d 164 696 [x0, x1] (st) σ (am_u ρ a 49 none) g τ Q := aw_pn m164 d164_693 rfl rfl (Or.inr ⟨rfl, rfl⟩) rfl ht
theorem d164_696 : decode cX12_init 696 = .ok (.aload_n 0, 1) := by decide +kernel
theorem s164_696 {d : Nat} {st : List Value} {σ : am_I} {ρ : am_R} {g : am_J} {τ : am_T} {Q : am_Q} {x1 : Value} {v : Nat} : AW d 164 696 [.ref v, x1] (st) σ ρ g τ Q = AW d 164 697 [.ref v, x1] (.ref v :: st) σ ρ g τ Q := aw_lc m164 d164_696 rfl rfl rfl
theorem s164_696n {d : Nat} {st : List Value} {σ : am_I} {ρ : am_R} {g : am_J} {τ : am_T} {Q : am_Q} {x1 : Value} : AW d 164 696 [.null, x1] (st) σ ρ g τ Q = AW d 164 697 [.null, x1] (.null :: st) σ ρ g τ Q := aw_lc m164 d164_696 rfl rfl rfl
theorem d164_697 : decode cX12_init 697 = .ok (.iconst 4, 1) := by decide +kernel
theorem s164_697 {d : Nat} {st : List Value} {σ : am_I} {ρ : am_R} {g : am_J} {τ : am_T} {Q : am_Q} {x0 x1 : Value} : AW d 164 697 [x0, x1] (st) σ ρ g τ Q = AW d 164 698 [x0, x1] (.int 4 :: st) σ ρ g τ Q := aw_lc m164 d164_697 rfl rfl rfl
theorem d164_698 : decode cX12_init 698 = .ok (.newarray .int, 2) := by decide +kernel
theorem s164_698 {d : Nat} {st : List Value} {σ : am_I} {ρ : am_R} {g : am_J} {τ : am_T} {Q : am_Q} {x0 x1 : Value} {j : Int32} (hj : ¬ j < 0 ∧ j.toNatClampNeg ≤ 10000) : AW d 164 698 [x0, x1] (.int j :: st) σ ρ g τ Q = AW d 164 700 [x0, x1] (.ref τ.2.2.1 :: st) (am_new 15 j.toNatClampNeg σ ρ g τ).1 (am_new 15 j.toNatClampNeg σ ρ g τ).2.1 (am_new 15 j.toNatClampNeg σ ρ g τ).2.2.1 (am_new 15 j.toNatClampNeg σ ρ g τ).2.2.2 Q := aw_nwa m164 d164_698 rfl rfl (by decide) hj
theorem d164_700 : decode cX12_init 700 = .ok (.putfield 154, 3) := by decide +kernel
theorem s164_700 {d : Nat} {st : List Value} {σ : am_I} {ρ : am_R} {g : am_J} {τ : am_T} {Q : am_Q} {x0 x1 : Value} {a b : Nat} (ht : τ.1 a = 12) : AW d 164 700 [x0, x1] (.ref b :: .ref a :: st) σ ρ g τ Q = AW d 164 703 [x0, x1] (st) σ (am_u ρ a 50 (some b)) g τ Q := aw_pr m164 d164_700 rfl rfl (Or.inr ⟨rfl, rfl⟩) rfl ht
theorem s164_700n {d : Nat} {st : List Value} {σ : am_I} {ρ : am_R} {g : am_J} {τ : am_T} {Q : am_Q} {x0 x1 : Value} {a : Nat} (ht : τ.1 a = 12) : AW d 164 700 [x0, x1] (.null :: .ref a :: st) σ ρ g τ Q = AW d 164 703 [x0, x1] (st) σ (am_u ρ a 50 none) g τ Q := aw_pn m164 d164_700 rfl rfl (Or.inr ⟨rfl, rfl⟩) rfl ht
theorem d164_703 : decode cX12_init 703 = .ok (.aload_n 0, 1) := by decide +kernel
theorem s164_703 {d : Nat} {st : List Value} {σ : am_I} {ρ : am_R} {g : am_J} {τ : am_T} {Q : am_Q} {x1 : Value} {v : Nat} : AW d 164 703 [.ref v, x1] (st) σ ρ g τ Q = AW d 164 704 [.ref v, x1] (.ref v :: st) σ ρ g τ Q := aw_lc m164 d164_703 rfl rfl rfl
theorem s164_703n {d : Nat} {st : List Value} {σ : am_I} {ρ : am_R} {g : am_J} {τ : am_T} {Q : am_Q} {x1 : Value} : AW d 164 703 [.null, x1] (st) σ ρ g τ Q = AW d 164 704 [.null, x1] (.null :: st) σ ρ g τ Q := aw_lc m164 d164_703 rfl rfl rfl
theorem d164_704 : decode cX12_init 704 = .ok (.iconst 4, 1) := by decide +kernel
theorem s164_704 {d : Nat} {st : List Value} {σ : am_I} {ρ : am_R} {g : am_J} {τ : am_T} {Q : am_Q} {x0 x1 : Value} : AW d 164 704 [x0, x1] (st) σ ρ g τ Q = AW d 164 705 [x0, x1] (.int 4 :: st) σ ρ g τ Q := aw_lc m164 d164_704 rfl rfl rfl
theorem d164_705 : decode cX12_init 705 = .ok (.newarray .int, 2) := by decide +kernel
theorem s164_705 {d : Nat} {st : List Value} {σ : am_I} {ρ : am_R} {g : am_J} {τ : am_T} {Q : am_Q} {x0 x1 : Value} {j : Int32} (hj : ¬ j < 0 ∧ j.toNatClampNeg ≤ 10000) : AW d 164 705 [x0, x1] (.int j :: st) σ ρ g τ Q = AW d 164 707 [x0, x1] (.ref τ.2.2.1 :: st) (am_new 15 j.toNatClampNeg σ ρ g τ).1 (am_new 15 j.toNatClampNeg σ ρ g τ).2.1 (am_new 15 j.toNatClampNeg σ ρ g τ).2.2.1 (am_new 15 j.toNatClampNeg σ ρ g τ).2.2.2 Q := aw_nwa m164 d164_705 rfl rfl (by decide) hj
theorem d164_707 : decode cX12_init 707 = .ok (.putfield 157, 3) := by decide +kernel
theorem s164_707 {d : Nat} {st : List Value} {σ : am_I} {ρ : am_R} {g : am_J} {τ : am_T} {Q : am_Q} {x0 x1 : Value} {a b : Nat} (ht : τ.1 a = 12) : AW d 164 707 [x0, x1] (.ref b :: .ref a :: st) σ ρ g τ Q = AW d 164 710 [x0, x1] (st) σ (am_u ρ a 51 (some b)) g τ Q := aw_pr m164 d164_707 rfl rfl (Or.inr ⟨rfl, rfl⟩) rfl ht
theorem s164_707n {d : Nat} {st : List Value} {σ : am_I} {ρ : am_R} {g : am_J} {τ : am_T} {Q : am_Q} {x0 x1 : Value} {a : Nat} (ht : τ.1 a = 12) : AW d 164 707 [x0, x1] (.null :: .ref a :: st) σ ρ g τ Q = AW d 164 710 [x0, x1] (st) σ (am_u ρ a 51 none) g τ Q := aw_pn m164 d164_707 rfl rfl (Or.inr ⟨rfl, rfl⟩) rfl ht
theorem d164_710 : decode cX12_init 710 = .ok (.aload_n 0, 1) := by decide +kernel
theorem s164_710 {d : Nat} {st : List Value} {σ : am_I} {ρ : am_R} {g : am_J} {τ : am_T} {Q : am_Q} {x1 : Value} {v : Nat} : AW d 164 710 [.ref v, x1] (st) σ ρ g τ Q = AW d 164 711 [.ref v, x1] (.ref v :: st) σ ρ g τ Q := aw_lc m164 d164_710 rfl rfl rfl
theorem s164_710n {d : Nat} {st : List Value} {σ : am_I} {ρ : am_R} {g : am_J} {τ : am_T} {Q : am_Q} {x1 : Value} : AW d 164 710 [.null, x1] (st) σ ρ g τ Q = AW d 164 711 [.null, x1] (.null :: st) σ ρ g τ Q := aw_lc m164 d164_710 rfl rfl rfl
theorem d164_711 : decode cX12_init 711 = .ok (.iconst 4, 1) := by decide +kernel
theorem s164_711 {d : Nat} {st : List Value} {σ : am_I} {ρ : am_R} {g : am_J} {τ : am_T} {Q : am_Q} {x0 x1 : Value} : AW d 164 711 [x0, x1] (st) σ ρ g τ Q = AW d 164 712 [x0, x1] (.int 4 :: st) σ ρ g τ Q := aw_lc m164 d164_711 rfl rfl rfl
theorem d164_712 : decode cX12_init 712 = .ok (.newarray .int, 2) := by decide +kernel
theorem s164_712 {d : Nat} {st : List Value} {σ : am_I} {ρ : am_R} {g : am_J} {τ : am_T} {Q : am_Q} {x0 x1 : Value} {j : Int32} (hj : ¬ j < 0 ∧ j.toNatClampNeg ≤ 10000) : AW d 164 712 [x0, x1] (.int j :: st) σ ρ g τ Q = AW d 164 714 [x0, x1] (.ref τ.2.2.1 :: st) (am_new 15 j.toNatClampNeg σ ρ g τ).1 (am_new 15 j.toNatClampNeg σ ρ g τ).2.1 (am_new 15 j.toNatClampNeg σ ρ g τ).2.2.1 (am_new 15 j.toNatClampNeg σ ρ g τ).2.2.2 Q := aw_nwa m164 d164_712 rfl rfl (by decide) hj
theorem d164_714 : decode cX12_init 714 = .ok (.putfield 160, 3) := by decide +kernel
theorem s164_714 {d : Nat} {st : List Value} {σ : am_I} {ρ : am_R} {g : am_J} {τ : am_T} {Q : am_Q} {x0 x1 : Value} {a b : Nat} (ht : τ.1 a = 12) : AW d 164 714 [x0, x1] (.ref b :: .ref a :: st) σ ρ g τ Q = AW d 164 717 [x0, x1] (st) σ (am_u ρ a 52 (some b)) g τ Q := aw_pr m164 d164_714 rfl rfl (Or.inr ⟨rfl, rfl⟩) rfl ht
theorem s164_714n {d : Nat} {st : List Value} {σ : am_I} {ρ : am_R} {g : am_J} {τ : am_T} {Q : am_Q} {x0 x1 : Value} {a : Nat} (ht : τ.1 a = 12) : AW d 164 714 [x0, x1] (.null :: .ref a :: st) σ ρ g τ Q = AW d 164 717 [x0, x1] (st) σ (am_u ρ a 52 none) g τ Q := aw_pn m164 d164_714 rfl rfl (Or.inr ⟨rfl, rfl⟩) rfl ht
theorem d164_717 : decode cX12_init 717 = .ok (.aload_n 0, 1) := by decide +kernel
theorem s164_717 {d : Nat} {st : List Value} {σ : am_I} {ρ : am_R} {g : am_J} {τ : am_T} {Q : am_Q} {x1 : Value} {v : Nat} : AW d 164 717 [.ref v, x1] (st) σ ρ g τ Q = AW d 164 718 [.ref v, x1] (.ref v :: st) σ ρ g τ Q := aw_lc m164 d164_717 rfl rfl rfl
theorem s164_717n {d : Nat} {st : List Value} {σ : am_I} {ρ : am_R} {g : am_J} {τ : am_T} {Q : am_Q} {x1 : Value} : AW d 164 717 [.null, x1] (st) σ ρ g τ Q = AW d 164 718 [.null, x1] (.null :: st) σ ρ g τ Q := aw_lc m164 d164_717 rfl rfl rfl
theorem d164_718 : decode cX12_init 718 = .ok (.iconst 4, 1) := by decide +kernel
theorem s164_718 {d : Nat} {st : List Value} {σ : am_I} {ρ : am_R} {g : am_J} {τ : am_T} {Q : am_Q} {x0 x1 : Value} : AW d 164 718 [x0, x1] (st) σ ρ g τ Q = AW d 164 719 [x0, x1] (.int 4 :: st) σ ρ g τ Q := aw_lc m164 d164_718 rfl rfl rfl
theorem d164_719 : decode cX12_init 719 = .ok (.newarray .int, 2) := by decide +kernel
theorem s164_719 {d : Nat} {st : List Value} {σ : am_I} {ρ : am_R} {g : am_J} {τ : am_T} {Q : am_Q} {x0 x1 : Value} {j : Int32} (hj : ¬ j < 0 ∧ j.toNatClampNeg ≤ 10000) : AW d 164 719 [x0, x1] (.int j :: st) σ ρ g τ Q = AW d 164 721 [x0, x1] (.ref τ.2.2.1 :: st) (am_new 15 j.toNatClampNeg σ ρ g τ).1 (am_new 15 j.toNatClampNeg σ ρ g τ).2.1 (am_new 15 j.toNatClampNeg σ ρ g τ).2.2.1 (am_new 15 j.toNatClampNeg σ ρ g τ).2.2.2 Q := aw_nwa m164 d164_719 rfl rfl (by decide) hj
theorem d164_721 : decode cX12_init 721 = .ok (.putfield 163, 3) := by decide +kernel
theorem s164_721 {d : Nat} {st : List Value} {σ : am_I} {ρ : am_R} {g : am_J} {τ : am_T} {Q : am_Q} {x0 x1 : Value} {a b : Nat} (ht : τ.1 a = 12) : AW d 164 721 [x0, x1] (.ref b :: .ref a :: st) σ ρ g τ Q = AW d 164 724 [x0, x1] (st) σ (am_u ρ a 53 (some b)) g τ Q := aw_pr m164 d164_721 rfl rfl (Or.inr ⟨rfl, rfl⟩) rfl ht
theorem s164_721n {d : Nat} {st : List Value} {σ : am_I} {ρ : am_R} {g : am_J} {τ : am_T} {Q : am_Q} {x0 x1 : Value} {a : Nat} (ht : τ.1 a = 12) : AW d 164 721 [x0, x1] (.null :: .ref a :: st) σ ρ g τ Q = AW d 164 724 [x0, x1] (st) σ (am_u ρ a 53 none) g τ Q := aw_pn m164 d164_721 rfl rfl (Or.inr ⟨rfl, rfl⟩) rfl ht
theorem d164_724 : decode cX12_init 724 = .ok (.aload_n 0, 1) := by decide +kernel
theorem s164_724 {d : Nat} {st : List Value} {σ : am_I} {ρ : am_R} {g : am_J} {τ : am_T} {Q : am_Q} {x1 : Value} {v : Nat} : AW d 164 724 [.ref v, x1] (st) σ ρ g τ Q = AW d 164 725 [.ref v, x1] (.ref v :: st) σ ρ g τ Q := aw_lc m164 d164_724 rfl rfl rfl
theorem s164_724n {d : Nat} {st : List Value} {σ : am_I} {ρ : am_R} {g : am_J} {τ : am_T} {Q : am_Q} {x1 : Value} : AW d 164 724 [.null, x1] (st) σ ρ g τ Q = AW d 164 725 [.null, x1] (.null :: st) σ ρ g τ Q := aw_lc m164 d164_724 rfl rfl rfl
theorem d164_725 : decode cX12_init 725 = .ok (.bipush 30, 2) := by decide +kernel
theorem s164_725 {d : Nat} {st : List Value} {σ : am_I} {ρ : am_R} {g : am_J} {τ : am_T} {Q : am_Q} {x0 x1 : Value} : AW d 164 725 [x0, x1] (st) σ ρ g τ Q = AW d 164 727 [x0, x1] (.int 30 :: st) σ ρ g τ Q := aw_lc m164 d164_725 rfl rfl rfl
theorem d164_727 : decode cX12_init 727 = .ok (.newarray .int, 2) := by decide +kernel
theorem s164_727 {d : Nat} {st : List Value} {σ : am_I} {ρ : am_R} {g : am_J} {τ : am_T} {Q : am_Q} {x0 x1 : Value} {j : Int32} (hj : ¬ j < 0 ∧ j.toNatClampNeg ≤ 10000) : AW d 164 727 [x0, x1] (.int j :: st) σ ρ g τ Q = AW d 164 729 [x0, x1] (.ref τ.2.2.1 :: st) (am_new 15 j.toNatClampNeg σ ρ g τ).1 (am_new 15 j.toNatClampNeg σ ρ g τ).2.1 (am_new 15 j.toNatClampNeg σ ρ g τ).2.2.1 (am_new 15 j.toNatClampNeg σ ρ g τ).2.2.2 Q := aw_nwa m164 d164_727 rfl rfl (by decide) hj
theorem d164_729 : decode cX12_init 729 = .ok (.putfield 166, 3) := by decide +kernel
theorem s164_729 {d : Nat} {st : List Value} {σ : am_I} {ρ : am_R} {g : am_J} {τ : am_T} {Q : am_Q} {x0 x1 : Value} {a b : Nat} (ht : τ.1 a = 12) : AW d 164 729 [x0, x1] (.ref b :: .ref a :: st) σ ρ g τ Q = AW d 164 732 [x0, x1] (st) σ (am_u ρ a 54 (some b)) g τ Q := aw_pr m164 d164_729 rfl rfl (Or.inr ⟨rfl, rfl⟩) rfl ht
theorem s164_729n {d : Nat} {st : List Value} {σ : am_I} {ρ : am_R} {g : am_J} {τ : am_T} {Q : am_Q} {x0 x1 : Value} {a : Nat} (ht : τ.1 a = 12) : AW d 164 729 [x0, x1] (.null :: .ref a :: st) σ ρ g τ Q = AW d 164 732 [x0, x1] (st) σ (am_u ρ a 54 none) g τ Q := aw_pn m164 d164_729 rfl rfl (Or.inr ⟨rfl, rfl⟩) rfl ht
theorem d164_732 : decode cX12_init 732 = .ok (.aload_n 0, 1) := by decide +kernel
theorem s164_732 {d : Nat} {st : List Value} {σ : am_I} {ρ : am_R} {g : am_J} {τ : am_T} {Q : am_Q} {x1 : Value} {v : Nat} : AW d 164 732 [.ref v, x1] (st) σ ρ g τ Q = AW d 164 733 [.ref v, x1] (.ref v :: st) σ ρ g τ Q := aw_lc m164 d164_732 rfl rfl rfl
theorem s164_732n {d : Nat} {st : List Value} {σ : am_I} {ρ : am_R} {g : am_J} {τ : am_T} {Q : am_Q} {x1 : Value} : AW d 164 732 [.null, x1] (st) σ ρ g τ Q = AW d 164 733 [.null, x1] (.null :: st) σ ρ g τ Q := aw_lc m164 d164_732 rfl rfl rfl
theorem d164_733 : decode cX12_init 733 = .ok (.sipush 369, 3) := by decide +kernel
theorem s164_733 {d : Nat} {st : List Value} {σ : am_I} {ρ : am_R} {g : am_J} {τ : am_T} {Q : am_Q} {x0 x1 : Value} : AW d 164 733 [x0, x1] (st) σ ρ g τ Q = AW d 164 736 [x0, x1] (.int 369 :: st) σ ρ g τ Q := aw_lc m164 d164_733 rfl rfl rfl
theorem d164_736 : decode cX12_init 736 = .ok (.newarray .int, 2) := by decide +kernel
theorem s164_736 {d : Nat} {st : List Value} {σ : am_I} {ρ : am_R} {g : am_J} {τ : am_T} {Q : am_Q} {x0 x1 : Value} {j : Int32} (hj : ¬ j < 0 ∧ j.toNatClampNeg ≤ 10000) : AW d 164 736 [x0, x1] (.int j :: st) σ ρ g τ Q = AW d 164 738 [x0, x1] (.ref τ.2.2.1 :: st) (am_new 15 j.toNatClampNeg σ ρ g τ).1 (am_new 15 j.toNatClampNeg σ ρ g τ).2.1 (am_new 15 j.toNatClampNeg σ ρ g τ).2.2.1 (am_new 15 j.toNatClampNeg σ ρ g τ).2.2.2 Q := aw_nwa m164 d164_736 rfl rfl (by decide) hj
theorem d164_738 : decode cX12_init 738 = .ok (.putfield 169, 3) := by decide +kernel
theorem s164_738 {d : Nat} {st : List Value} {σ : am_I} {ρ : am_R} {g : am_J} {τ : am_T} {Q : am_Q} {x0 x1 : Value} {a b : Nat} (ht : τ.1 a = 12) : AW d 164 738 [x0, x1] (.ref b :: .ref a :: st) σ ρ g τ Q = AW d 164 741 [x0, x1] (st) σ (am_u ρ a 56 (some b)) g τ Q := aw_pr m164 d164_738 rfl rfl (Or.inr ⟨rfl, rfl⟩) rfl ht
theorem s164_738n {d : Nat} {st : List Value} {σ : am_I} {ρ : am_R} {g : am_J} {τ : am_T} {Q : am_Q} {x0 x1 : Value} {a : Nat} (ht : τ.1 a = 12) : AW d 164 738 [x0, x1] (.null :: .ref a :: st) σ ρ g τ Q = AW d 164 741 [x0, x1] (st) σ (am_u ρ a 56 none) g τ Q := aw_pn m164 d164_738 rfl rfl (Or.inr ⟨rfl, rfl⟩) rfl ht
theorem d164_741 : decode cX12_init 741 = .ok (.aload_n 0, 1) := by decide +kernel
theorem s164_741 {d : Nat} {st : List Value} {σ : am_I} {ρ : am_R} {g : am_J} {τ : am_T} {Q : am_Q} {x1 : Value} {v : Nat} : AW d 164 741 [.ref v, x1] (st) σ ρ g τ Q = AW d 164 742 [.ref v, x1] (.ref v :: st) σ ρ g τ Q := aw_lc m164 d164_741 rfl rfl rfl
theorem s164_741n {d : Nat} {st : List Value} {σ : am_I} {ρ : am_R} {g : am_J} {τ : am_T} {Q : am_Q} {x1 : Value} : AW d 164 741 [.null, x1] (st) σ ρ g τ Q = AW d 164 742 [.null, x1] (.null :: st) σ ρ g τ Q := aw_lc m164 d164_741 rfl rfl rfl
theorem d164_742 : decode cX12_init 742 = .ok (.sipush 256, 3) := by decide +kernel
theorem s164_742 {d : Nat} {st : List Value} {σ : am_I} {ρ : am_R} {g : am_J} {τ : am_T} {Q : am_Q} {x0 x1 : Value} : AW d 164 742 [x0, x1] (st) σ ρ g τ Q = AW d 164 745 [x0, x1] (.int 256 :: st) σ ρ g τ Q := aw_lc m164 d164_742 rfl rfl rfl
theorem d164_745 : decode cX12_init 745 = .ok (.newarray .boolean, 2) := by decide +kernel
theorem s164_745 {d : Nat} {st : List Value} {σ : am_I} {ρ : am_R} {g : am_J} {τ : am_T} {Q : am_Q} {x0 x1 : Value} {j : Int32} (hj : ¬ j < 0 ∧ j.toNatClampNeg ≤ 10000) : AW d 164 745 [x0, x1] (.int j :: st) σ ρ g τ Q = AW d 164 747 [x0, x1] (.ref τ.2.2.1 :: st) (am_new 17 j.toNatClampNeg σ ρ g τ).1 (am_new 17 j.toNatClampNeg σ ρ g τ).2.1 (am_new 17 j.toNatClampNeg σ ρ g τ).2.2.1 (am_new 17 j.toNatClampNeg σ ρ g τ).2.2.2 Q := aw_nwa m164 d164_745 rfl rfl (by decide) hj
theorem d164_747 : decode cX12_init 747 = .ok (.putfield 172, 3) := by decide +kernel
theorem s164_747 {d : Nat} {st : List Value} {σ : am_I} {ρ : am_R} {g : am_J} {τ : am_T} {Q : am_Q} {x0 x1 : Value} {a b : Nat} (ht : τ.1 a = 12) : AW d 164 747 [x0, x1] (.ref b :: .ref a :: st) σ ρ g τ Q = AW d 164 750 [x0, x1] (st) σ (am_u ρ a 63 (some b)) g τ Q := aw_pr m164 d164_747 rfl rfl (Or.inr ⟨rfl, rfl⟩) rfl ht
theorem s164_747n {d : Nat} {st : List Value} {σ : am_I} {ρ : am_R} {g : am_J} {τ : am_T} {Q : am_Q} {x0 x1 : Value} {a : Nat} (ht : τ.1 a = 12) : AW d 164 747 [x0, x1] (.null :: .ref a :: st) σ ρ g τ Q = AW d 164 750 [x0, x1] (st) σ (am_u ρ a 63 none) g τ Q := aw_pn m164 d164_747 rfl rfl (Or.inr ⟨rfl, rfl⟩) rfl ht
theorem d164_750 : decode cX12_init 750 = .ok (.aload_n 0, 1) := by decide +kernel
theorem s164_750 {d : Nat} {st : List Value} {σ : am_I} {ρ : am_R} {g : am_J} {τ : am_T} {Q : am_Q} {x1 : Value} {v : Nat} : AW d 164 750 [.ref v, x1] (st) σ ρ g τ Q = AW d 164 751 [.ref v, x1] (.ref v :: st) σ ρ g τ Q := aw_lc m164 d164_750 rfl rfl rfl
theorem s164_750n {d : Nat} {st : List Value} {σ : am_I} {ρ : am_R} {g : am_J} {τ : am_T} {Q : am_Q} {x1 : Value} : AW d 164 750 [.null, x1] (st) σ ρ g τ Q = AW d 164 751 [.null, x1] (.null :: st) σ ρ g τ Q := aw_lc m164 d164_750 rfl rfl rfl
theorem d164_751 : decode cX12_init 751 = .ok (.bipush 16, 2) := by decide +kernel
theorem s164_751 {d : Nat} {st : List Value} {σ : am_I} {ρ : am_R} {g : am_J} {τ : am_T} {Q : am_Q} {x0 x1 : Value} : AW d 164 751 [x0, x1] (st) σ ρ g τ Q = AW d 164 753 [x0, x1] (.int 16 :: st) σ ρ g τ Q := aw_lc m164 d164_751 rfl rfl rfl
theorem d164_753 : decode cX12_init 753 = .ok (.newarray .int, 2) := by decide +kernel
theorem s164_753 {d : Nat} {st : List Value} {σ : am_I} {ρ : am_R} {g : am_J} {τ : am_T} {Q : am_Q} {x0 x1 : Value} {j : Int32} (hj : ¬ j < 0 ∧ j.toNatClampNeg ≤ 10000) : AW d 164 753 [x0, x1] (.int j :: st) σ ρ g τ Q = AW d 164 755 [x0, x1] (.ref τ.2.2.1 :: st) (am_new 15 j.toNatClampNeg σ ρ g τ).1 (am_new 15 j.toNatClampNeg σ ρ g τ).2.1 (am_new 15 j.toNatClampNeg σ ρ g τ).2.2.1 (am_new 15 j.toNatClampNeg σ ρ g τ).2.2.2 Q := aw_nwa m164 d164_753 rfl rfl (by decide) hj
theorem d164_755 : decode cX12_init 755 = .ok (.putfield 176, 3) := by decide +kernel
theorem s164_755 {d : Nat} {st : List Value} {σ : am_I} {ρ : am_R} {g : am_J} {τ : am_T} {Q : am_Q} {x0 x1 : Value} {a b : Nat} (ht : τ.1 a = 12) : AW d 164 755 [x0, x1] (.ref b :: .ref a :: st) σ ρ g τ Q = AW d 164 758 [x0, x1] (st) σ (am_u ρ a 64 (some b)) g τ Q := aw_pr m164 d164_755 rfl rfl (Or.inr ⟨rfl, rfl⟩) rfl ht
theorem s164_755n {d : Nat} {st : List Value} {σ : am_I} {ρ : am_R} {g : am_J} {τ : am_T} {Q : am_Q} {x0 x1 : Value} {a : Nat} (ht : τ.1 a = 12) : AW d 164 755 [x0, x1] (.null :: .ref a :: st) σ ρ g τ Q = AW d 164 758 [x0, x1] (st) σ (am_u ρ a 64 none) g τ Q := aw_pn m164 d164_755 rfl rfl (Or.inr ⟨rfl, rfl⟩) rfl ht
theorem d164_758 : decode cX12_init 758 = .ok (.aload_n 0, 1) := by decide +kernel
theorem s164_758 {d : Nat} {st : List Value} {σ : am_I} {ρ : am_R} {g : am_J} {τ : am_T} {Q : am_Q} {x1 : Value} {v : Nat} : AW d 164 758 [.ref v, x1] (st) σ ρ g τ Q = AW d 164 759 [.ref v, x1] (.ref v :: st) σ ρ g τ Q := aw_lc m164 d164_758 rfl rfl rfl
theorem s164_758n {d : Nat} {st : List Value} {σ : am_I} {ρ : am_R} {g : am_J} {τ : am_T} {Q : am_Q} {x1 : Value} : AW d 164 758 [.null, x1] (st) σ ρ g τ Q = AW d 164 759 [.null, x1] (.null :: st) σ ρ g τ Q := aw_lc m164 d164_758 rfl rfl rfl
theorem d164_759 : decode cX12_init 759 = .ok (.bipush 16, 2) := by decide +kernel
theorem s164_759 {d : Nat} {st : List Value} {σ : am_I} {ρ : am_R} {g : am_J} {τ : am_T} {Q : am_Q} {x0 x1 : Value} : AW d 164 759 [x0, x1] (st) σ ρ g τ Q = AW d 164 761 [x0, x1] (.int 16 :: st) σ ρ g τ Q := aw_lc m164 d164_759 rfl rfl rfl
theorem d164_761 : decode cX12_init 761 = .ok (.newarray .int, 2) := by decide +kernel
theorem s164_761 {d : Nat} {st : List Value} {σ : am_I} {ρ : am_R} {g : am_J} {τ : am_T} {Q : am_Q} {x0 x1 : Value} {j : Int32} (hj : ¬ j < 0 ∧ j.toNatClampNeg ≤ 10000) : AW d 164 761 [x0, x1] (.int j :: st) σ ρ g τ Q = AW d 164 763 [x0, x1] (.ref τ.2.2.1 :: st) (am_new 15 j.toNatClampNeg σ ρ g τ).1 (am_new 15 j.toNatClampNeg σ ρ g τ).2.1 (am_new 15 j.toNatClampNeg σ ρ g τ).2.2.1 (am_new 15 j.toNatClampNeg σ ρ g τ).2.2.2 Q := aw_nwa m164 d164_761 rfl rfl (by decide) hj
theorem d164_763 : decode cX12_init 763 = .ok (.putfield 179, 3) := by decide +kernel
theorem s164_763 {d : Nat} {st : List Value} {σ : am_I} {ρ : am_R} {g : am_J} {τ : am_T} {Q : am_Q} {x0 x1 : Value} {a b : Nat} (ht : τ.1 a = 12) : AW d 164 763 [x0, x1] (.ref b :: .ref a :: st) σ ρ g τ Q = AW d 164 766 [x0, x1] (st) σ (am_u ρ a 65 (some b)) g τ Q := aw_pr m164 d164_763 rfl rfl (Or.inr ⟨rfl, rfl⟩) rfl ht
theorem s164_763n {d : Nat} {st : List Value} {σ : am_I} {ρ : am_R} {g : am_J} {τ : am_T} {Q : am_Q} {x0 x1 : Value} {a : Nat} (ht : τ.1 a = 12) : AW d 164 763 [x0, x1] (.null :: .ref a :: st) σ ρ g τ Q = AW d 164 766 [x0, x1] (st) σ (am_u ρ a 65 none) g τ Q := aw_pn m164 d164_763 rfl rfl (Or.inr ⟨rfl, rfl⟩) rfl ht
theorem d164_766 : decode cX12_init 766 = .ok (.aload_n 0, 1) := by decide +kernel
theorem s164_766 {d : Nat} {st : List Value} {σ : am_I} {ρ : am_R} {g : am_J} {τ : am_T} {Q : am_Q} {x1 : Value} {v : Nat} : AW d 164 766 [.ref v, x1] (st) σ ρ g τ Q = AW d 164 767 [.ref v, x1] (.ref v :: st) σ ρ g τ Q := aw_lc m164 d164_766 rfl rfl rfl
theorem s164_766n {d : Nat} {st : List Value} {σ : am_I} {ρ : am_R} {g : am_J} {τ : am_T} {Q : am_Q} {x1 : Value} : AW d 164 766 [.null, x1] (st) σ ρ g τ Q = AW d 164 767 [.null, x1] (.null :: st) σ ρ g τ Q := aw_lc m164 d164_766 rfl rfl rfl
theorem d164_767 : decode cX12_init 767 = .ok (.bipush 16, 2) := by decide +kernel
theorem s164_767 {d : Nat} {st : List Value} {σ : am_I} {ρ : am_R} {g : am_J} {τ : am_T} {Q : am_Q} {x0 x1 : Value} : AW d 164 767 [x0, x1] (st) σ ρ g τ Q = AW d 164 769 [x0, x1] (.int 16 :: st) σ ρ g τ Q := aw_lc m164 d164_767 rfl rfl rfl
theorem d164_769 : decode cX12_init 769 = .ok (.newarray .int, 2) := by decide +kernel
theorem s164_769 {d : Nat} {st : List Value} {σ : am_I} {ρ : am_R} {g : am_J} {τ : am_T} {Q : am_Q} {x0 x1 : Value} {j : Int32} (hj : ¬ j < 0 ∧ j.toNatClampNeg ≤ 10000) : AW d 164 769 [x0, x1] (.int j :: st) σ ρ g τ Q = AW d 164 771 [x0, x1] (.ref τ.2.2.1 :: st) (am_new 15 j.toNatClampNeg σ ρ g τ).1 (am_new 15 j.toNatClampNeg σ ρ g τ).2.1 (am_new 15 j.toNatClampNeg σ ρ g τ).2.2.1 (am_new 15 j.toNatClampNeg σ ρ g τ).2.2.2 Q := aw_nwa m164 d164_769 rfl rfl (by decide) hj
theorem d164_771 : decode cX12_init 771 = .ok (.putfield 182, 3) := by decide +kernel
theorem s164_771 {d : Nat} {st : List Value} {σ : am_I} {ρ : am_R} {g : am_J} {τ : am_T} {Q : am_Q} {x0 x1 : Value} {a b : Nat} (ht : τ.1 a = 12) : AW d 164 771 [x0, x1] (.ref b :: .ref a :: st) σ ρ g τ Q = AW d 164 774 [x0, x1] (st) σ (am_u ρ a 66 (some b)) g τ Q := aw_pr m164 d164_771 rfl rfl (Or.inr ⟨rfl, rfl⟩) rfl ht
theorem s164_771n {d : Nat} {st : List Value} {σ : am_I} {ρ : am_R} {g : am_J} {τ : am_T} {Q : am_Q} {x0 x1 : Value} {a : Nat} (ht : τ.1 a = 12) : AW d 164 771 [x0, x1] (.null :: .ref a :: st) σ ρ g τ Q = AW d 164 774 [x0, x1] (st) σ (am_u ρ a 66 none) g τ Q := aw_pn m164 d164_771 rfl rfl (Or.inr ⟨rfl, rfl⟩) rfl ht
theorem d164_774 : decode cX12_init 774 = .ok (.aload_n 0, 1) := by decide +kernel
theorem s164_774 {d : Nat} {st : List Value} {σ : am_I} {ρ : am_R} {g : am_J} {τ : am_T} {Q : am_Q} {x1 : Value} {v : Nat} : AW d 164 774 [.ref v, x1] (st) σ ρ g τ Q = AW d 164 775 [.ref v, x1] (.ref v :: st) σ ρ g τ Q := aw_lc m164 d164_774 rfl rfl rfl
theorem s164_774n {d : Nat} {st : List Value} {σ : am_I} {ρ : am_R} {g : am_J} {τ : am_T} {Q : am_Q} {x1 : Value} : AW d 164 774 [.null, x1] (st) σ ρ g τ Q = AW d 164 775 [.null, x1] (.null :: st) σ ρ g τ Q := aw_lc m164 d164_774 rfl rfl rfl
theorem d164_775 : decode cX12_init 775 = .ok (.iconst 3, 1) := by decide +kernel
theorem s164_775 {d : Nat} {st : List Value} {σ : am_I} {ρ : am_R} {g : am_J} {τ : am_T} {Q : am_Q} {x0 x1 : Value} : AW d 164 775 [x0, x1] (st) σ ρ g τ Q = AW d 164 776 [x0, x1] (.int 3 :: st) σ ρ g τ Q := aw_lc m164 d164_775 rfl rfl rfl
theorem d164_776 : decode cX12_init 776 = .ok (.newarray .int, 2) := by decide +kernel
theorem s164_776 {d : Nat} {st : List Value} {σ : am_I} {ρ : am_R} {g : am_J} {τ : am_T} {Q : am_Q} {x0 x1 : Value} {j : Int32} (hj : ¬ j < 0 ∧ j.toNatClampNeg ≤ 10000) : AW d 164 776 [x0, x1] (.int j :: st) σ ρ g τ Q = AW d 164 778 [x0, x1] (.ref τ.2.2.1 :: st) (am_new 15 j.toNatClampNeg σ ρ g τ).1 (am_new 15 j.toNatClampNeg σ ρ g τ).2.1 (am_new 15 j.toNatClampNeg σ ρ g τ).2.2.1 (am_new 15 j.toNatClampNeg σ ρ g τ).2.2.2 Q := aw_nwa m164 d164_776 rfl rfl (by decide) hj
theorem d164_778 : decode cX12_init 778 = .ok (.putfield 185, 3) := by decide +kernel
theorem s164_778 {d : Nat} {st : List Value} {σ : am_I} {ρ : am_R} {g : am_J} {τ : am_T} {Q : am_Q} {x0 x1 : Value} {a b : Nat} (ht : τ.1 a = 12) : AW d 164 778 [x0, x1] (.ref b :: .ref a :: st) σ ρ g τ Q = AW d 164 781 [x0, x1] (st) σ (am_u ρ a 67 (some b)) g τ Q := aw_pr m164 d164_778 rfl rfl (Or.inr ⟨rfl, rfl⟩) rfl ht
theorem s164_778n {d : Nat} {st : List Value} {σ : am_I} {ρ : am_R} {g : am_J} {τ : am_T} {Q : am_Q} {x0 x1 : Value} {a : Nat} (ht : τ.1 a = 12) : AW d 164 778 [x0, x1] (.null :: .ref a :: st) σ ρ g τ Q = AW d 164 781 [x0, x1] (st) σ (am_u ρ a 67 none) g τ Q := aw_pn m164 d164_778 rfl rfl (Or.inr ⟨rfl, rfl⟩) rfl ht
theorem d164_781 : decode cX12_init 781 = .ok (.aload_n 0, 1) := by decide +kernel
theorem s164_781 {d : Nat} {st : List Value} {σ : am_I} {ρ : am_R} {g : am_J} {τ : am_T} {Q : am_Q} {x1 : Value} {v : Nat} : AW d 164 781 [.ref v, x1] (st) σ ρ g τ Q = AW d 164 782 [.ref v, x1] (.ref v :: st) σ ρ g τ Q := aw_lc m164 d164_781 rfl rfl rfl
theorem s164_781n {d : Nat} {st : List Value} {σ : am_I} {ρ : am_R} {g : am_J} {τ : am_T} {Q : am_Q} {x1 : Value} : AW d 164 781 [.null, x1] (st) σ ρ g τ Q = AW d 164 782 [.null, x1] (.null :: st) σ ρ g τ Q := aw_lc m164 d164_781 rfl rfl rfl
theorem d164_782 : decode cX12_init 782 = .ok (.bipush 20, 2) := by decide +kernel
theorem s164_782 {d : Nat} {st : List Value} {σ : am_I} {ρ : am_R} {g : am_J} {τ : am_T} {Q : am_Q} {x0 x1 : Value} : AW d 164 782 [x0, x1] (st) σ ρ g τ Q = AW d 164 784 [x0, x1] (.int 20 :: st) σ ρ g τ Q := aw_lc m164 d164_782 rfl rfl rfl
theorem d164_784 : decode cX12_init 784 = .ok (.newarray .int, 2) := by decide +kernel
theorem s164_784 {d : Nat} {st : List Value} {σ : am_I} {ρ : am_R} {g : am_J} {τ : am_T} {Q : am_Q} {x0 x1 : Value} {j : Int32} (hj : ¬ j < 0 ∧ j.toNatClampNeg ≤ 10000) : AW d 164 784 [x0, x1] (.int j :: st) σ ρ g τ Q = AW d 164 786 [x0, x1] (.ref τ.2.2.1 :: st) (am_new 15 j.toNatClampNeg σ ρ g τ).1 (am_new 15 j.toNatClampNeg σ ρ g τ).2.1 (am_new 15 j.toNatClampNeg σ ρ g τ).2.2.1 (am_new 15 j.toNatClampNeg σ ρ g τ).2.2.2 Q := aw_nwa m164 d164_784 rfl rfl (by decide) hj
theorem d164_786 : decode cX12_init 786 = .ok (.putfield 188, 3) := by decide +kernel
theorem s164_786 {d : Nat} {st : List Value} {σ : am_I} {ρ : am_R} {g : am_J} {τ : am_T} {Q : am_Q} {x0 x1 : Value} {a b : Nat} (ht : τ.1 a = 12) : AW d 164 786 [x0, x1] (.ref b :: .ref a :: st) σ ρ g τ Q = AW d 164 789 [x0, x1] (st) σ (am_u ρ a 68 (some b)) g τ Q := aw_pr m164 d164_786 rfl rfl (Or.inr ⟨rfl, rfl⟩) rfl ht
theorem s164_786n {d : Nat} {st : List Value} {σ : am_I} {ρ : am_R} {g : am_J} {τ : am_T} {Q : am_Q} {x0 x1 : Value} {a : Nat} (ht : τ.1 a = 12) : AW d 164 786 [x0, x1] (.null :: .ref a :: st) σ ρ g τ Q = AW d 164 789 [x0, x1] (st) σ (am_u ρ a 68 none) g τ Q := aw_pn m164 d164_786 rfl rfl (Or.inr ⟨rfl, rfl⟩) rfl ht
theorem d164_789 : decode cX12_init 789 = .ok (.aload_n 0, 1) := by decide +kernel
theorem s164_789 {d : Nat} {st : List Value} {σ : am_I} {ρ : am_R} {g : am_J} {τ : am_T} {Q : am_Q} {x1 : Value} {v : Nat} : AW d 164 789 [.ref v, x1] (st) σ ρ g τ Q = AW d 164 790 [.ref v, x1] (.ref v :: st) σ ρ g τ Q := aw_lc m164 d164_789 rfl rfl rfl
theorem s164_789n {d : Nat} {st : List Value} {σ : am_I} {ρ : am_R} {g : am_J} {τ : am_T} {Q : am_Q} {x1 : Value} : AW d 164 789 [.null, x1] (st) σ ρ g τ Q = AW d 164 790 [.null, x1] (.null :: st) σ ρ g τ Q := aw_lc m164 d164_789 rfl rfl rfl
theorem d164_790 : decode cX12_init 790 = .ok (.bipush 20, 2) := by decide +kernel
theorem s164_790 {d : Nat} {st : List Value} {σ : am_I} {ρ : am_R} {g : am_J} {τ : am_T} {Q : am_Q} {x0 x1 : Value} : AW d 164 790 [x0, x1] (st) σ ρ g τ Q = AW d 164 792 [x0, x1] (.int 20 :: st) σ ρ g τ Q := aw_lc m164 d164_790 rfl rfl rfl
theorem d164_792 : decode cX12_init 792 = .ok (.newarray .boolean, 2) := by decide +kernel
theorem s164_792 {d : Nat} {st : List Value} {σ : am_I} {ρ : am_R} {g : am_J} {τ : am_T} {Q : am_Q} {x0 x1 : Value} {j : Int32} (hj : ¬ j < 0 ∧ j.toNatClampNeg ≤ 10000) : AW d 164 792 [x0, x1] (.int j :: st) σ ρ g τ Q = AW d 164 794 [x0, x1] (.ref τ.2.2.1 :: st) (am_new 17 j.toNatClampNeg σ ρ g τ).1 (am_new 17 j.toNatClampNeg σ ρ g τ).2.1 (am_new 17 j.toNatClampNeg σ ρ g τ).2.2.1 (am_new 17 j.toNatClampNeg σ ρ g τ).2.2.2 Q := aw_nwa m164 d164_792 rfl rfl (by decide) hj
theorem d164_794 : decode cX12_init 794 = .ok (.putfield 191, 3) := by decide +kernel
theorem s164_794 {d : Nat} {st : List Value} {σ : am_I} {ρ : am_R} {g : am_J} {τ : am_T} {Q : am_Q} {x0 x1 : Value} {a b : Nat} (ht : τ.1 a = 12) : AW d 164 794 [x0, x1] (.ref b :: .ref a :: st) σ ρ g τ Q = AW d 164 797 [x0, x1] (st) σ (am_u ρ a 69 (some b)) g τ Q := aw_pr m164 d164_794 rfl rfl (Or.inr ⟨rfl, rfl⟩) rfl ht
theorem s164_794n {d : Nat} {st : List Value} {σ : am_I} {ρ : am_R} {g : am_J} {τ : am_T} {Q : am_Q} {x0 x1 : Value} {a : Nat} (ht : τ.1 a = 12) : AW d 164 794 [x0, x1] (.null :: .ref a :: st) σ ρ g τ Q = AW d 164 797 [x0, x1] (st) σ (am_u ρ a 69 none) g τ Q := aw_pn m164 d164_794 rfl rfl (Or.inr ⟨rfl, rfl⟩) rfl ht
theorem d164_797 : decode cX12_init 797 = .ok (.iconst 0, 1) := by decide +kernel
theorem s164_797 {d : Nat} {st : List Value} {σ : am_I} {ρ : am_R} {g : am_J} {τ : am_T} {Q : am_Q} {x0 x1 : Value} : AW d 164 797 [x0, x1] (st) σ ρ g τ Q = AW d 164 798 [x0, x1] (.int 0 :: st) σ ρ g τ Q := aw_lc m164 d164_797 rfl rfl rfl
theorem d164_798 : decode cX12_init 798 = .ok (.istore_n 1, 1) := by decide +kernel
theorem s164_798r {d : Nat} {st : List Value} {σ : am_I} {ρ : am_R} {g : am_J} {τ : am_T} {Q : am_Q} {x1 : Value} {v : Int32} {u : Nat} : AW d 164 798 [.ref u, x1] (.int v :: st) σ ρ g τ Q = AW d 164 799 [.ref u, .int v] (st) σ ρ g τ Q := aw_lc m164 d164_798 rfl rfl rfl
theorem d164_799 : decode cX12_init 799 = .ok (.iload_n 1, 1) := by decide +kernel
theorem s164_799 {d : Nat} {st : List Value} {σ : am_I} {ρ : am_R} {g : am_J} {τ : am_T} {Q : am_Q} {x0 : Value} {v : Int32} : AW d 164 799 [x0, .int v] (st) σ ρ g τ Q = AW d 164 800 [x0, .int v] (.int v :: st) σ ρ g τ Q := aw_lc m164 d164_799 rfl rfl rfl
theorem d164_800 : decode cX12_init 800 = .ok (.iconst 3, 1) := by decide +kernel
theorem s164_800 {d : Nat} {st : List Value} {σ : am_I} {ρ : am_R} {g : am_J} {τ : am_T} {Q : am_Q} {x0 x1 : Value} : AW d 164 800 [x0, x1] (st) σ ρ g τ Q = AW d 164 801 [x0, x1] (.int 3 :: st) σ ρ g τ Q := aw_lc m164 d164_800 rfl rfl rfl
theorem d164_801 : decode cX12_init 801 = .ok (.if_icmp .ge 17, 3) := by decide +kernel
theorem s164_801 {d : Nat} {st : List Value} {σ : am_I} {ρ : am_R} {g : am_J} {τ : am_T} {Q : am_Q} {x0 x1 : Value} {v w : Int32} : AW d 164 801 [x0, x1] (.int w :: .int v :: st) σ ρ g τ Q = if w ≤ v then AW d 164 818 [x0, x1] (st) σ ρ g τ Q else AW d 164 804 [x0, x1] (st) σ ρ g τ Q := aw_br m164 d164_801 rfl rfl rfl
theorem d164_804 : decode cX12_init 804 = .ok (.aload_n 0, 1) := by decide +kernel
theorem s164_804 {d : Nat} {st : List Value} {σ : am_I} {ρ : am_R} {g : am_J} {τ : am_T} {Q : am_Q} {x1 : Value} {v : Nat} : AW d 164 804 [.ref v, x1] (st) σ ρ g τ Q = AW d 164 805 [.ref v, x1] (.ref v :: st) σ ρ g τ Q := aw_lc m164 d164_804 rfl rfl rfl
theorem s164_804n {d : Nat} {st : List Value} {σ : am_I} {ρ : am_R} {g : am_J} {τ : am_T} {Q : am_Q} {x1 : Value} : AW d 164 804 [.null, x1] (st) σ ρ g τ Q = AW d 164 805 [.null, x1] (.null :: st) σ ρ g τ Q := aw_lc m164 d164_804 rfl rfl rfl
theorem d164_805 : decode cX12_init 805 = .ok (.getfield 13, 3) := by decide +kernel
theorem s164_805 {d : Nat} {st : List Value} {σ : am_I} {ρ : am_R} {g : am_J} {τ : am_T} {Q : am_Q} {x0 x1 : Value} {a : Nat} (ht : τ.1 a = 12) : AW d 164 805 [x0, x1] (.ref a :: st) σ ρ g τ Q = AW d 164 808 [x0, x1] (va_rf (ρ a 1) :: st) σ ρ g τ Q := aw_gr m164 d164_805 rfl rfl rfl ht
theorem d164_808 : decode cX12_init 808 = .ok (.iload_n 1, 1) := by decide +kernel
theorem s164_808 {d : Nat} {st : List Value} {σ : am_I} {ρ : am_R} {g : am_J} {τ : am_T} {Q : am_Q} {x0 : Value} {v : Int32} : AW d 164 808 [x0, .int v] (st) σ ρ g τ Q = AW d 164 809 [x0, .int v] (.int v :: st) σ ρ g τ Q := aw_lc m164 d164_808 rfl rfl rfl
theorem d164_809 : decode cX12_init 809 = .ok (.bipush 10, 2) := by decide +kernel
theorem s164_809 {d : Nat} {st : List Value} {σ : am_I} {ρ : am_R} {g : am_J} {τ : am_T} {Q : am_Q} {x0 x1 : Value} : AW d 164 809 [x0, x1] (st) σ ρ g τ Q = AW d 164 811 [x0, x1] (.int 10 :: st) σ ρ g τ Q := aw_lc m164 d164_809 rfl rfl rfl
theorem d164_811 : decode cX12_init 811 = .ok (.iastore, 1) := by decide +kernel
theorem s164_811 {d : Nat} {st : List Value} {σ : am_I} {ρ : am_R} {g : am_J} {τ : am_T} {Q : am_Q} {x0 x1 : Value} {a : Nat} {j v : Int32} (ht : τ.1 a = 15) (ha : a < am_BG) (hj : am_inb j (τ.2.1 a) = true) : AW d 164 811 [x0, x1] (.int v :: .int j :: .ref a :: st) σ ρ g τ Q = AW d 164 812 [x0, x1] (st) (am_u σ a j.toNatClampNeg v) ρ g τ Q := aw_ias m164 d164_811 rfl ht ha hj
theorem d164_812 : decode cX12_init 812 = .ok (.iinc 1 1, 3) := by decide +kernel
theorem s164_812r {d : Nat} {st : List Value} {σ : am_I} {ρ : am_R} {g : am_J} {τ : am_T} {Q : am_Q} {v : Int32} {u : Nat} : AW d 164 812 [.ref u, .int v] (st) σ ρ g τ Q = AW d 164 815 [.ref u, .int (v + 1)] (st) σ ρ g τ Q := aw_lc m164 d164_812 rfl rfl rfl
theorem d164_815 : decode cX12_init 815 = .ok (.goto (-16), 3) := by decide +kernel
theorem s164_815 {d : Nat} {st : List Value} {σ : am_I} {ρ : am_R} {g : am_J} {τ : am_T} {Q : am_Q} {x0 x1 : Value} : AW d 164 815 [x0, x1] (st) σ ρ g τ Q = AW d 164 799 [x0, x1] (st) σ ρ g τ Q := aw_lc m164 d164_815 rfl rfl rfl
theorem d164_818 : decode cX12_init 818 = .ok (.iconst 0, 1) := by decide +kernel
theorem s164_818 {d : Nat} {st : List Value} {σ : am_I} {ρ : am_R} {g : am_J} {τ : am_T} {Q : am_Q} {x0 x1 : Value} : AW d 164 818 [x0, x1] (st) σ ρ g τ Q = AW d 164 819 [x0, x1] (.int 0 :: st) σ ρ g τ Q := aw_lc m164 d164_818 rfl rfl rfl
theorem d164_819 : decode cX12_init 819 = .ok (.istore_n 1, 1) := by decide +kernel
theorem s164_819r {d : Nat} {st : List Value} {σ : am_I} {ρ : am_R} {g : am_J} {τ : am_T} {Q : am_Q} {x1 : Value} {v : Int32} {u : Nat} : AW d 164 819 [.ref u, x1] (.int v :: st) σ ρ g τ Q = AW d 164 820 [.ref u, .int v] (st) σ ρ g τ Q := aw_lc m164 d164_819 rfl rfl rfl
theorem d164_820 : decode cX12_init 820 = .ok (.iload_n 1, 1) := by decide +kernel
theorem s164_820 {d : Nat} {st : List Value} {σ : am_I} {ρ : am_R} {g : am_J} {τ : am_T} {Q : am_Q} {x0 : Value} {v : Int32} : AW d 164 820 [x0, .int v] (st) σ ρ g τ Q = AW d 164 821 [x0, .int v] (.int v :: st) σ ρ g τ Q := aw_lc m164 d164_820 rfl rfl rfl
theorem d164_821 : decode cX12_init 821 = .ok (.bipush 12, 2) := by decide +kernel
theorem s164_821 {d : Nat} {st : List Value} {σ : am_I} {ρ : am_R} {g : am_J} {τ : am_T} {Q : am_Q} {x0 x1 : Value} : AW d 164 821 [x0, x1] (st) σ ρ g τ Q = AW d 164 823 [x0, x1] (.int 12 :: st) σ ρ g τ Q := aw_lc m164 d164_821 rfl rfl rfl
theorem d164_823 : decode cX12_init 823 = .ok (.if_icmp .ge 17, 3) := by decide +kernel
theorem s164_823 {d : Nat} {st : List Value} {σ : am_I} {ρ : am_R} {g : am_J} {τ : am_T} {Q : am_Q} {x0 x1 : Value} {v w : Int32} : AW d 164 823 [x0, x1] (.int w :: .int v :: st) σ ρ g τ Q = if w ≤ v then AW d 164 840 [x0, x1] (st) σ ρ g τ Q else AW d 164 826 [x0, x1] (st) σ ρ g τ Q := aw_br m164 d164_823 rfl rfl rfl
theorem d164_826 : decode cX12_init 826 = .ok (.aload_n 0, 1) := by decide +kernel
theorem s164_826 {d : Nat} {st : List Value} {σ : am_I} {ρ : am_R} {g : am_J} {τ : am_T} {Q : am_Q} {x1 : Value} {v : Nat} : AW d 164 826 [.ref v, x1] (st) σ ρ g τ Q = AW d 164 827 [.ref v, x1] (.ref v :: st) σ ρ g τ Q := aw_lc m164 d164_826 rfl rfl rfl
theorem s164_826n {d : Nat} {st : List Value} {σ : am_I} {ρ : am_R} {g : am_J} {τ : am_T} {Q : am_Q} {x1 : Value} : AW d 164 826 [.null, x1] (st) σ ρ g τ Q = AW d 164 827 [.null, x1] (.null :: st) σ ρ g τ Q := aw_lc m164 d164_826 rfl rfl rfl
theorem d164_827 : decode cX12_init 827 = .ok (.getfield 16, 3) := by decide +kernel
theorem s164_827 {d : Nat} {st : List Value} {σ : am_I} {ρ : am_R} {g : am_J} {τ : am_T} {Q : am_Q} {x0 x1 : Value} {a : Nat} (ht : τ.1 a = 12) : AW d 164 827 [x0, x1] (.ref a :: st) σ ρ g τ Q = AW d 164 830 [x0, x1] (va_rf (ρ a 2) :: st) σ ρ g τ Q := aw_gr m164 d164_827 rfl rfl rfl ht
theorem d164_830 : decode cX12_init 830 = .ok (.iload_n 1, 1) := by decide +kernel
theorem s164_830 {d : Nat} {st : List Value} {σ : am_I} {ρ : am_R} {g : am_J} {τ : am_T} {Q : am_Q} {x0 : Value} {v : Int32} : AW d 164 830 [x0, .int v] (st) σ ρ g τ Q = AW d 164 831 [x0, .int v] (.int v :: st) σ ρ g τ Q := aw_lc m164 d164_830 rfl rfl rfl
theorem d164_831 : decode cX12_init 831 = .ok (.bipush 100, 2) := by decide +kernel
theorem s164_831 {d : Nat} {st : List Value} {σ : am_I} {ρ : am_R} {g : am_J} {τ : am_T} {Q : am_Q} {x0 x1 : Value} : AW d 164 831 [x0, x1] (st) σ ρ g τ Q = AW d 164 833 [x0, x1] (.int 100 :: st) σ ρ g τ Q := aw_lc m164 d164_831 rfl rfl rfl
theorem d164_833 : decode cX12_init 833 = .ok (.iastore, 1) := by decide +kernel
theorem s164_833 {d : Nat} {st : List Value} {σ : am_I} {ρ : am_R} {g : am_J} {τ : am_T} {Q : am_Q} {x0 x1 : Value} {a : Nat} {j v : Int32} (ht : τ.1 a = 15) (ha : a < am_BG) (hj : am_inb j (τ.2.1 a) = true) : AW d 164 833 [x0, x1] (.int v :: .int j :: .ref a :: st) σ ρ g τ Q = AW d 164 834 [x0, x1] (st) (am_u σ a j.toNatClampNeg v) ρ g τ Q := aw_ias m164 d164_833 rfl ht ha hj
theorem d164_834 : decode cX12_init 834 = .ok (.iinc 1 1, 3) := by decide +kernel
theorem s164_834r {d : Nat} {st : List Value} {σ : am_I} {ρ : am_R} {g : am_J} {τ : am_T} {Q : am_Q} {v : Int32} {u : Nat} : AW d 164 834 [.ref u, .int v] (st) σ ρ g τ Q = AW d 164 837 [.ref u, .int (v + 1)] (st) σ ρ g τ Q := aw_lc m164 d164_834 rfl rfl rfl
theorem d164_837 : decode cX12_init 837 = .ok (.goto (-17), 3) := by decide +kernel
theorem s164_837 {d : Nat} {st : List Value} {σ : am_I} {ρ : am_R} {g : am_J} {τ : am_T} {Q : am_Q} {x0 x1 : Value} : AW d 164 837 [x0, x1] (st) σ ρ g τ Q = AW d 164 820 [x0, x1] (st) σ ρ g τ Q := aw_lc m164 d164_837 rfl rfl rfl
theorem d164_840 : decode cX12_init 840 = .ok (.iconst 0, 1) := by decide +kernel
theorem s164_840 {d : Nat} {st : List Value} {σ : am_I} {ρ : am_R} {g : am_J} {τ : am_T} {Q : am_Q} {x0 x1 : Value} : AW d 164 840 [x0, x1] (st) σ ρ g τ Q = AW d 164 841 [x0, x1] (.int 0 :: st) σ ρ g τ Q := aw_lc m164 d164_840 rfl rfl rfl
theorem d164_841 : decode cX12_init 841 = .ok (.istore_n 1, 1) := by decide +kernel
theorem s164_841r {d : Nat} {st : List Value} {σ : am_I} {ρ : am_R} {g : am_J} {τ : am_T} {Q : am_Q} {x1 : Value} {v : Int32} {u : Nat} : AW d 164 841 [.ref u, x1] (.int v :: st) σ ρ g τ Q = AW d 164 842 [.ref u, .int v] (st) σ ρ g τ Q := aw_lc m164 d164_841 rfl rfl rfl
theorem d164_842 : decode cX12_init 842 = .ok (.iload_n 1, 1) := by decide +kernel
theorem s164_842 {d : Nat} {st : List Value} {σ : am_I} {ρ : am_R} {g : am_J} {τ : am_T} {Q : am_Q} {x0 : Value} {v : Int32} : AW d 164 842 [x0, .int v] (st) σ ρ g τ Q = AW d 164 843 [x0, .int v] (.int v :: st) σ ρ g τ Q := aw_lc m164 d164_842 rfl rfl rfl
theorem d164_843 : decode cX12_init 843 = .ok (.iconst 4, 1) := by decide +kernel
theorem s164_843 {d : Nat} {st : List Value} {σ : am_I} {ρ : am_R} {g : am_J} {τ : am_T} {Q : am_Q} {x0 x1 : Value} : AW d 164 843 [x0, x1] (st) σ ρ g τ Q = AW d 164 844 [x0, x1] (.int 4 :: st) σ ρ g τ Q := aw_lc m164 d164_843 rfl rfl rfl
theorem d164_844 : decode cX12_init 844 = .ok (.if_icmp .ge 23, 3) := by decide +kernel
theorem s164_844 {d : Nat} {st : List Value} {σ : am_I} {ρ : am_R} {g : am_J} {τ : am_T} {Q : am_Q} {x0 x1 : Value} {v w : Int32} : AW d 164 844 [x0, x1] (.int w :: .int v :: st) σ ρ g τ Q = if w ≤ v then AW d 164 867 [x0, x1] (st) σ ρ g τ Q else AW d 164 847 [x0, x1] (st) σ ρ g τ Q := aw_br m164 d164_844 rfl rfl rfl
theorem d164_847 : decode cX12_init 847 = .ok (.aload_n 0, 1) := by decide +kernel
theorem s164_847 {d : Nat} {st : List Value} {σ : am_I} {ρ : am_R} {g : am_J} {τ : am_T} {Q : am_Q} {x1 : Value} {v : Nat} : AW d 164 847 [.ref v, x1] (st) σ ρ g τ Q = AW d 164 848 [.ref v, x1] (.ref v :: st) σ ρ g τ Q := aw_lc m164 d164_847 rfl rfl rfl
theorem s164_847n {d : Nat} {st : List Value} {σ : am_I} {ρ : am_R} {g : am_J} {τ : am_T} {Q : am_Q} {x1 : Value} : AW d 164 847 [.null, x1] (st) σ ρ g τ Q = AW d 164 848 [.null, x1] (.null :: st) σ ρ g τ Q := aw_lc m164 d164_847 rfl rfl rfl
theorem d164_848 : decode cX12_init 848 = .ok (.getfield 151, 3) := by decide +kernel
theorem s164_848 {d : Nat} {st : List Value} {σ : am_I} {ρ : am_R} {g : am_J} {τ : am_T} {Q : am_Q} {x0 x1 : Value} {a : Nat} (ht : τ.1 a = 12) : AW d 164 848 [x0, x1] (.ref a :: st) σ ρ g τ Q = AW d 164 851 [x0, x1] (va_rf (ρ a 49) :: st) σ ρ g τ Q := aw_gr m164 d164_848 rfl rfl rfl ht
theorem d164_851 : decode cX12_init 851 = .ok (.iload_n 1, 1) := by decide +kernel
theorem s164_851 {d : Nat} {st : List Value} {σ : am_I} {ρ : am_R} {g : am_J} {τ : am_T} {Q : am_Q} {x0 : Value} {v : Int32} : AW d 164 851 [x0, .int v] (st) σ ρ g τ Q = AW d 164 852 [x0, .int v] (.int v :: st) σ ρ g τ Q := aw_lc m164 d164_851 rfl rfl rfl
theorem d164_852 : decode cX12_init 852 = .ok (.iconst (-1), 1) := by decide +kernel
theorem s164_852 {d : Nat} {st : List Value} {σ : am_I} {ρ : am_R} {g : am_J} {τ : am_T} {Q : am_Q} {x0 x1 : Value} : AW d 164 852 [x0, x1] (st) σ ρ g τ Q = AW d 164 853 [x0, x1] (.int (-1) :: st) σ ρ g τ Q := aw_lc m164 d164_852 rfl rfl rfl
theorem d164_853 : decode cX12_init 853 = .ok (.iastore, 1) := by decide +kernel
theorem s164_853 {d : Nat} {st : List Value} {σ : am_I} {ρ : am_R} {g : am_J} {τ : am_T} {Q : am_Q} {x0 x1 : Value} {a : Nat} {j v : Int32} (ht : τ.1 a = 15) (ha : a < am_BG) (hj : am_inb j (τ.2.1 a) = true) : AW d 164 853 [x0, x1] (.int v :: .int j :: .ref a :: st) σ ρ g τ Q = AW d 164 854 [x0, x1] (st) (am_u σ a j.toNatClampNeg v) ρ g τ Q := aw_ias m164 d164_853 rfl ht ha hj
theorem d164_854 : decode cX12_init 854 = .ok (.aload_n 0, 1) := by decide +kernel
theorem s164_854 {d : Nat} {st : List Value} {σ : am_I} {ρ : am_R} {g : am_J} {τ : am_T} {Q : am_Q} {x1 : Value} {v : Nat} : AW d 164 854 [.ref v, x1] (st) σ ρ g τ Q = AW d 164 855 [.ref v, x1] (.ref v :: st) σ ρ g τ Q := aw_lc m164 d164_854 rfl rfl rfl
theorem s164_854n {d : Nat} {st : List Value} {σ : am_I} {ρ : am_R} {g : am_J} {τ : am_T} {Q : am_Q} {x1 : Value} : AW d 164 854 [.null, x1] (st) σ ρ g τ Q = AW d 164 855 [.null, x1] (.null :: st) σ ρ g τ Q := aw_lc m164 d164_854 rfl rfl rfl
theorem d164_855 : decode cX12_init 855 = .ok (.getfield 157, 3) := by decide +kernel
theorem s164_855 {d : Nat} {st : List Value} {σ : am_I} {ρ : am_R} {g : am_J} {τ : am_T} {Q : am_Q} {x0 x1 : Value} {a : Nat} (ht : τ.1 a = 12) : AW d 164 855 [x0, x1] (.ref a :: st) σ ρ g τ Q = AW d 164 858 [x0, x1] (va_rf (ρ a 51) :: st) σ ρ g τ Q := aw_gr m164 d164_855 rfl rfl rfl ht
theorem d164_858 : decode cX12_init 858 = .ok (.iload_n 1, 1) := by decide +kernel
theorem s164_858 {d : Nat} {st : List Value} {σ : am_I} {ρ : am_R} {g : am_J} {τ : am_T} {Q : am_Q} {x0 : Value} {v : Int32} : AW d 164 858 [x0, .int v] (st) σ ρ g τ Q = AW d 164 859 [x0, .int v] (.int v :: st) σ ρ g τ Q := aw_lc m164 d164_858 rfl rfl rfl
theorem d164_859 : decode cX12_init 859 = .ok (.iconst 3, 1) := by decide +kernel
theorem s164_859 {d : Nat} {st : List Value} {σ : am_I} {ρ : am_R} {g : am_J} {τ : am_T} {Q : am_Q} {x0 x1 : Value} : AW d 164 859 [x0, x1] (st) σ ρ g τ Q = AW d 164 860 [x0, x1] (.int 3 :: st) σ ρ g τ Q := aw_lc m164 d164_859 rfl rfl rfl
theorem d164_860 : decode cX12_init 860 = .ok (.iastore, 1) := by decide +kernel
theorem s164_860 {d : Nat} {st : List Value} {σ : am_I} {ρ : am_R} {g : am_J} {τ : am_T} {Q : am_Q} {x0 x1 : Value} {a : Nat} {j v : Int32} (ht : τ.1 a = 15) (ha : a < am_BG) (hj : am_inb j (τ.2.1 a) = true) : AW d 164 860 [x0, x1] (.int v :: .int j :: .ref a :: st) σ ρ g τ Q = AW d 164 861 [x0, x1] (st) (am_u σ a j.toNatClampNeg v) ρ g τ Q := aw_ias m164 d164_860 rfl ht ha hj
theorem d164_861 : decode cX12_init 861 = .ok (.iinc 1 1, 3) := by decide +kernel
theorem s164_861r {d : Nat} {st : List Value} {σ : am_I} {ρ : am_R} {g : am_J} {τ : am_T} {Q : am_Q} {v : Int32} {u : Nat} : AW d 164 861 [.ref u, .int v] (st) σ ρ g τ Q = AW d 164 864 [.ref u, .int (v + 1)] (st) σ ρ g τ Q := aw_lc m164 d164_861 rfl rfl rfl
theorem d164_864 : decode cX12_init 864 = .ok (.goto (-22), 3) := by decide +kernel
theorem s164_864 {d : Nat} {st : List Value} {σ : am_I} {ρ : am_R} {g : am_J} {τ : am_T} {Q : am_Q} {x0 x1 : Value} : AW d 164 864 [x0, x1] (st) σ ρ g τ Q = AW d 164 842 [x0, x1] (st) σ ρ g τ Q := aw_lc m164 d164_864 rfl rfl rfl
theorem d164_867 : decode cX12_init 867 = .ok (.iconst 0, 1) := by decide +kernel
theorem s164_867 {d : Nat} {st : List Value} {σ : am_I} {ρ : am_R} {g : am_J} {τ : am_T} {Q : am_Q} {x0 x1 : Value} : AW d 164 867 [x0, x1] (st) σ ρ g τ Q = AW d 164 868 [x0, x1] (.int 0 :: st) σ ρ g τ Q := aw_lc m164 d164_867 rfl rfl rfl
theorem d164_868 : decode cX12_init 868 = .ok (.istore_n 1, 1) := by decide +kernel
theorem s164_868r {d : Nat} {st : List Value} {σ : am_I} {ρ : am_R} {g : am_J} {τ : am_T} {Q : am_Q} {x1 : Value} {v : Int32} {u : Nat} : AW d 164 868 [.ref u, x1] (.int v :: st) σ ρ g τ Q = AW d 164 869 [.ref u, .int v] (st) σ ρ g τ Q := aw_lc m164 d164_868 rfl rfl rfl
theorem d164_869 : decode cX12_init 869 = .ok (.iload_n 1, 1) := by decide +kernel
theorem s164_869 {d : Nat} {st : List Value} {σ : am_I} {ρ : am_R} {g : am_J} {τ : am_T} {Q : am_Q} {x0 : Value} {v : Int32} : AW d 164 869 [x0, .int v] (st) σ ρ g τ Q = AW d 164 870 [x0, .int v] (.int v :: st) σ ρ g τ Q := aw_lc m164 d164_869 rfl rfl rfl
theorem d164_870 : decode cX12_init 870 = .ok (.bipush 40, 2) := by decide +kernel
theorem s164_870 {d : Nat} {st : List Value} {σ : am_I} {ρ : am_R} {g : am_J} {τ : am_T} {Q : am_Q} {x0 x1 : Value} : AW d 164 870 [x0, x1] (st) σ ρ g τ Q = AW d 164 872 [x0, x1] (.int 40 :: st) σ ρ g τ Q := aw_lc m164 d164_870 rfl rfl rfl
theorem d164_872 : decode cX12_init 872 = .ok (.if_icmp .ge 24, 3) := by decide +kernel
theorem s164_872 {d : Nat} {st : List Value} {σ : am_I} {ρ : am_R} {g : am_J} {τ : am_T} {Q : am_Q} {x0 x1 : Value} {v w : Int32} : AW d 164 872 [x0, x1] (.int w :: .int v :: st) σ ρ g τ Q = if w ≤ v then AW d 164 896 [x0, x1] (st) σ ρ g τ Q else AW d 164 875 [x0, x1] (st) σ ρ g τ Q := aw_br m164 d164_872 rfl rfl rfl
theorem d164_875 : decode cX12_init 875 = .ok (.aload_n 0, 1) := by decide +kernel
theorem s164_875 {d : Nat} {st : List Value} {σ : am_I} {ρ : am_R} {g : am_J} {τ : am_T} {Q : am_Q} {x1 : Value} {v : Nat} : AW d 164 875 [.ref v, x1] (st) σ ρ g τ Q = AW d 164 876 [.ref v, x1] (.ref v :: st) σ ρ g τ Q := aw_lc m164 d164_875 rfl rfl rfl
theorem s164_875n {d : Nat} {st : List Value} {σ : am_I} {ρ : am_R} {g : am_J} {τ : am_T} {Q : am_Q} {x1 : Value} : AW d 164 875 [.null, x1] (st) σ ρ g τ Q = AW d 164 876 [.null, x1] (.null :: st) σ ρ g τ Q := aw_lc m164 d164_875 rfl rfl rfl
theorem d164_876 : decode cX12_init 876 = .ok (.getfield 135, 3) := by decide +kernel
theorem s164_876 {d : Nat} {st : List Value} {σ : am_I} {ρ : am_R} {g : am_J} {τ : am_T} {Q : am_Q} {x0 x1 : Value} {a : Nat} (ht : τ.1 a = 12) : AW d 164 876 [x0, x1] (.ref a :: st) σ ρ g τ Q = AW d 164 879 [x0, x1] (va_rf (ρ a 41) :: st) σ ρ g τ Q := aw_gr m164 d164_876 rfl rfl rfl ht
theorem d164_879 : decode cX12_init 879 = .ok (.iload_n 1, 1) := by decide +kernel
theorem s164_879 {d : Nat} {st : List Value} {σ : am_I} {ρ : am_R} {g : am_J} {τ : am_T} {Q : am_Q} {x0 : Value} {v : Int32} : AW d 164 879 [x0, .int v] (st) σ ρ g τ Q = AW d 164 880 [x0, .int v] (.int v :: st) σ ρ g τ Q := aw_lc m164 d164_879 rfl rfl rfl
theorem d164_880 : decode cX12_init 880 = .ok (.aload_n 0, 1) := by decide +kernel
theorem s164_880 {d : Nat} {st : List Value} {σ : am_I} {ρ : am_R} {g : am_J} {τ : am_T} {Q : am_Q} {x1 : Value} {v : Nat} : AW d 164 880 [.ref v, x1] (st) σ ρ g τ Q = AW d 164 881 [.ref v, x1] (.ref v :: st) σ ρ g τ Q := aw_lc m164 d164_880 rfl rfl rfl
theorem s164_880n {d : Nat} {st : List Value} {σ : am_I} {ρ : am_R} {g : am_J} {τ : am_T} {Q : am_Q} {x1 : Value} : AW d 164 880 [.null, x1] (st) σ ρ g τ Q = AW d 164 881 [.null, x1] (.null :: st) σ ρ g τ Q := aw_lc m164 d164_880 rfl rfl rfl
theorem d164_881 : decode cX12_init 881 = .ok (.getfield 131, 3) := by decide +kernel
theorem s164_881 {d : Nat} {st : List Value} {σ : am_I} {ρ : am_R} {g : am_J} {τ : am_T} {Q : am_Q} {x0 x1 : Value} {a : Nat} (ht : τ.1 a = 12) : AW d 164 881 [x0, x1] (.ref a :: st) σ ρ g τ Q = AW d 164 884 [x0, x1] (va_rf (ρ a 40) :: st) σ ρ g τ Q := aw_gr m164 d164_881 rfl rfl rfl ht
theorem d164_884 : decode cX12_init 884 = .ok (.iload_n 1, 1) := by decide +kernel
theorem s164_884 {d : Nat} {st : List Value} {σ : am_I} {ρ : am_R} {g : am_J} {τ : am_T} {Q : am_Q} {x0 : Value} {v : Int32} : AW d 164 884 [x0, .int v] (st) σ ρ g τ Q = AW d 164 885 [x0, .int v] (.int v :: st) σ ρ g τ Q := aw_lc m164 d164_884 rfl rfl rfl
theorem d164_885 : decode cX12_init 885 = .ok (.aaload, 1) := by decide +kernel
theorem s164_885 {d : Nat} {st : List Value} {σ : am_I} {ρ : am_R} {g : am_J} {τ : am_T} {Q : am_Q} {x0 x1 : Value} {a : Nat} {j : Int32} (ht : 18 ≤ τ.1 a ∧ τ.1 a ≤ 22) (hj : am_inb j (τ.2.1 a) = true) : AW d 164 885 [x0, x1] (.int j :: .ref a :: st) σ ρ g τ Q = AW d 164 886 [x0, x1] (va_rf (ρ a j.toNatClampNeg) :: st) σ ρ g τ Q := aw_aal m164 d164_885 rfl ht hj
theorem d164_886 : decode cX12_init 886 = .ok (.arraylength, 1) := by decide +kernel
theorem s164_886 {d : Nat} {st : List Value} {σ : am_I} {ρ : am_R} {g : am_J} {τ : am_T} {Q : am_Q} {x0 x1 : Value} {a : Nat} (ht : 14 ≤ τ.1 a ∧ τ.1 a ≤ 22) : AW d 164 886 [x0, x1] (.ref a :: st) σ ρ g τ Q = AW d 164 887 [x0, x1] (.int (nI (τ.2.1 a)) :: st) σ ρ g τ Q := aw_len m164 d164_886 rfl ht
theorem d164_887 : decode cX12_init 887 = .ok (.newarray .int, 2) := by decide +kernel
theorem s164_887 {d : Nat} {st : List Value} {σ : am_I} {ρ : am_R} {g : am_J} {τ : am_T} {Q : am_Q} {x0 x1 : Value} {j : Int32} (hj : ¬ j < 0 ∧ j.toNatClampNeg ≤ 10000) : AW d 164 887 [x0, x1] (.int j :: st) σ ρ g τ Q = AW d 164 889 [x0, x1] (.ref τ.2.2.1 :: st) (am_new 15 j.toNatClampNeg σ ρ g τ).1 (am_new 15 j.toNatClampNeg σ ρ g τ).2.1 (am_new 15 j.toNatClampNeg σ ρ g τ).2.2.1 (am_new 15 j.toNatClampNeg σ ρ g τ).2.2.2 Q := aw_nwa m164 d164_887 rfl rfl (by decide) hj
theorem d164_889 : decode cX12_init 889 = .ok (.aastore, 1) := by decide +kernel
theorem s164_889 {d : Nat} {st : List Value} {σ : am_I} {ρ : am_R} {g : am_J} {τ : am_T} {Q : am_Q} {x0 x1 : Value} {a b : Nat} {j : Int32} (ht : 18 ≤ τ.1 a ∧ τ.1 a ≤ 22) (hj : am_inb j (τ.2.1 a) = true) (hb : τ.1 b = am_elK (τ.1 a)) (hb2 : b < am_BG) : AW d 164 889 [x0, x1] (.ref b :: .int j :: .ref a :: st) σ ρ g τ Q = AW d 164 890 [x0, x1] (st) σ (am_u ρ a j.toNatClampNeg (some b)) g τ Q := aw_aas m164 d164_889 rfl ht hj hb hb2
theorem d164_890 : decode cX12_init 890 = .ok (.iinc 1 1, 3) := by decide +kernel
theorem s164_890r {d : Nat} {st : List Value} {σ : am_I} {ρ : am_R} {g : am_J} {τ : am_T} {Q : am_Q} {v : Int32} {u : Nat} : AW d 164 890 [.ref u, .int v] (st) σ ρ g τ Q = AW d 164 893 [.ref u, .int (v + 1)] (st) σ ρ g τ Q := aw_lc m164 d164_890 rfl rfl rfl
theorem d164_893 : decode cX12_init 893 = .ok (.goto (-24), 3) := by decide +kernel
theorem s164_893 {d : Nat} {st : List Value} {σ : am_I} {ρ : am_R} {g : am_J} {τ : am_T} {Q : am_Q} {x0 x1 : Value} : AW d 164 893 [x0, x1] (st) σ ρ g τ Q = AW d 164 869 [x0, x1] (st) σ ρ g τ Q := aw_lc m164 d164_893 rfl rfl rfl
theorem d164_896 : decode cX12_init 896 = .ok (.return_, 1) := by decide +kernel
theorem s164_896 {d : Nat} {σ : am_I} {ρ : am_R} {g : am_J} {τ : am_T} {Q : am_Q} {x0 x1 : Value} : AW d 164 896 [x0, x1] ([]) σ ρ g τ Q = Q none σ ρ g τ := aw_rv m164 d164_896 rfl
theorem d165_0 : decode cX12_is 0 = .ok (.iload_n 0, 1) := by decide +kernel
theorem s165_0 {d : Nat} {st : List Value} {σ : am_I} {ρ : am_R} {g : am_J} {τ : am_T} {Q : am_Q} {x1 x2 : Value} {v : Int32} : AW d 165 0 [.int v, x1, x2] (st) σ ρ g τ Q = AW d 165 1 [.int v, x1, x2] (.int v :: st) σ ρ g τ Q := aw_lc m165 d165_0 rfl rfl rfl
theorem d165_1 : decode cX12_is 1 = .ok (.iload_n 1, 1) := by decide +kernel
theorem s165_1 {d : Nat} {st : List Value} {σ : am_I} {ρ : am_R} {g : am_J} {τ : am_T} {Q : am_Q} {x0 x2 : Value} {v : Int32} : AW d 165 1 [x0, .int v, x2] (st) σ ρ g τ Q = AW d 165 2 [x0, .int v, x2] (.int v :: st) σ ρ g τ Q := aw_lc m165 d165_1 rfl rfl rfl
theorem d165_2 : decode cX12_is 2 = .ok (.if_icmp .lt 12, 3) := by decide +kernel
theorem s165_2 {d : Nat} {st : List Value} {σ : am_I} {ρ : am_R} {g : am_J} {τ : am_T} {Q : am_Q} {x0 x1 x2 : Value} {v w : Int32} : AW d 165 2 [x0, x1, x2] (.int w :: .int v :: st) σ ρ g τ Q = if v < w then AW d 165 14 [x0, x1, x2] (st) σ ρ g τ Q else AW d 165 5 [x0, x1, x2] (st) σ ρ g τ Q := aw_br m165 d165_2 rfl rfl rfl
theorem d165_5 : decode cX12_is 5 = .ok (.iload_n 0, 1) := by decide +kernel
theorem s165_5 {d : Nat} {st : List Value} {σ : am_I} {ρ : am_R} {g : am_J} {τ : am_T} {Q : am_Q} {x1 x2 : Value} {v : Int32} : AW d 165 5 [.int v, x1, x2] (st) σ ρ g τ Q = AW d 165 6 [.int v, x1, x2] (.int v :: st) σ ρ g τ Q := aw_lc m165 d165_5 rfl rfl rfl
theorem d165_6 : decode cX12_is 6 = .ok (.iload_n 2, 1) := by decide +kernel
theorem s165_6 {d : Nat} {st : List Value} {σ : am_I} {ρ : am_R} {g : am_J} {τ : am_T} {Q : am_Q} {x0 x1 : Value} {v : Int32} : AW d 165 6 [x0, x1, .int v] (st) σ ρ g τ Q = AW d 165 7 [x0, x1, .int v] (.int v :: st) σ ρ g τ Q := aw_lc m165 d165_6 rfl rfl rfl
theorem d165_7 : decode cX12_is 7 = .ok (.if_icmp .gt 7, 3) := by decide +kernel
theorem s165_7 {d : Nat} {st : List Value} {σ : am_I} {ρ : am_R} {g : am_J} {τ : am_T} {Q : am_Q} {x0 x1 x2 : Value} {v w : Int32} : AW d 165 7 [x0, x1, x2] (.int w :: .int v :: st) σ ρ g τ Q = if w < v then AW d 165 14 [x0, x1, x2] (st) σ ρ g τ Q else AW d 165 10 [x0, x1, x2] (st) σ ρ g τ Q := aw_br m165 d165_7 rfl rfl rfl
theorem d165_10 : decode cX12_is 10 = .ok (.iconst 1, 1) := by decide +kernel
theorem s165_10 {d : Nat} {st : List Value} {σ : am_I} {ρ : am_R} {g : am_J} {τ : am_T} {Q : am_Q} {x0 x1 x2 : Value} : AW d 165 10 [x0, x1, x2] (st) σ ρ g τ Q = AW d 165 11 [x0, x1, x2] (.int 1 :: st) σ ρ g τ Q := aw_lc m165 d165_10 rfl rfl rfl
theorem d165_11 : decode cX12_is 11 = .ok (.goto 4, 3) := by decide +kernel
theorem s165_11 {d : Nat} {st : List Value} {σ : am_I} {ρ : am_R} {g : am_J} {τ : am_T} {Q : am_Q} {x0 x1 x2 : Value} : AW d 165 11 [x0, x1, x2] (st) σ ρ g τ Q = AW d 165 15 [x0, x1, x2] (st) σ ρ g τ Q := aw_lc m165 d165_11 rfl rfl rfl
theorem d165_14 : decode cX12_is 14 = .ok (.iconst 0, 1) := by decide +kernel
theorem s165_14 {d : Nat} {st : List Value} {σ : am_I} {ρ : am_R} {g : am_J} {τ : am_T} {Q : am_Q} {x0 x1 x2 : Value} : AW d 165 14 [x0, x1, x2] (st) σ ρ g τ Q = AW d 165 15 [x0, x1, x2] (.int 0 :: st) σ ρ g τ Q := aw_lc m165 d165_14 rfl rfl rfl
theorem d165_15 : decode cX12_is 15 = .ok (.ireturn, 1) := by decide +kernel
theorem s165_15 {d : Nat} {σ : am_I} {ρ : am_R} {g : am_J} {τ : am_T} {Q : am_Q} {x0 x1 x2 : Value} {v : Int32} (hv : am_b01 v = true) : AW d 165 15 [x0, x1, x2] ([.int v]) σ ρ g τ Q = Q (some (.int v)) σ ρ g τ := aw_rz m165 d165_15 rfl hv
theorem d166_0 : decode cX12_isMonth 0 = .ok (.iload_n 0, 1) := by decide +kernel
theorem s166_0 {d : Nat} {st : List Value} {σ : am_I} {ρ : am_R} {g : am_J} {τ : am_T} {Q : am_Q} {v : Int32} : AW d 166 0 [.int v] (st) σ ρ g τ Q = AW d 166 1 [.int v] (.int v :: st) σ ρ g τ Q := aw_lc m166 d166_0 rfl rfl rfl
theorem d166_1 : decode cX12_isMonth 1 = .ok (.iconst 0, 1) := by decide +kernel
theorem s166_1 {d : Nat} {st : List Value} {σ : am_I} {ρ : am_R} {g : am_J} {τ : am_T} {Q : am_Q} {x0 : Value} : AW d 166 1 [x0] (st) σ ρ g τ Q = AW d 166 2 [x0] (.int 0 :: st) σ ρ g τ Q := aw_lc m166 d166_1 rfl rfl rfl
theorem d166_2 : decode cX12_isMonth 2 = .ok (.sipush 599, 3) := by decide +kernel
theorem s166_2 {d : Nat} {st : List Value} {σ : am_I} {ρ : am_R} {g : am_J} {τ : am_T} {Q : am_Q} {x0 : Value} : AW d 166 2 [x0] (st) σ ρ g τ Q = AW d 166 5 [x0] (.int 599 :: st) σ ρ g τ Q := aw_lc m166 d166_2 rfl rfl rfl
theorem d166_5 : decode cX12_isMonth 5 = .ok (.invokestatic 194, 3) := by decide +kernel
theorem s166_5 {d : Nat} {st : List Value} {σ : am_I} {ρ : am_R} {g : am_J} {τ : am_T} {Q : am_Q} {x0 : Value} {p0 : Int32} {p1 : Int32} {p2 : Int32} (hs : st.length ≤ 4) : AW (d + 1) 166 5 [x0] (.int p2 :: .int p1 :: .int p0 :: st) σ ρ g τ Q = AW d 165 0 [.int p0, .int p1, .int p2] [] σ ρ g τ (fun r9 σ ρ g τ => AW (d + 1) 166 8 [x0] (r9.toList ++ st) σ ρ g τ Q) := aw_cs m166 d166_5 rfl (by simp only [List.length_cons]; omega) rfl rfl en165 ok165 rfl hs
theorem d166_8 : decode cX12_isMonth 8 = .ok (.ireturn, 1) := by decide +kernel
theorem s166_8 {d : Nat} {σ : am_I} {ρ : am_R} {g : am_J} {τ : am_T} {Q : am_Q} {x0 : Value} {v : Int32} (hv : am_b01 v = true) : AW d 166 8 [x0] ([.int v]) σ ρ g τ Q = Q (some (.int v)) σ ρ g τ := aw_rz m166 d166_8 rfl hv
theorem d167_0 : decode cX12_isOne 0 = .ok (.iload_n 2, 1) := by decide +kernel
theorem s167_0 {d : Nat} {st : List Value} {σ : am_I} {ρ : am_R} {g : am_J} {τ : am_T} {Q : am_Q} {x0 x1 : Value} {v : Int32} : AW d 167 0 [x0, x1, .int v] (st) σ ρ g τ Q = AW d 167 1 [x0, x1, .int v] (.int v :: st) σ ρ g τ Q := aw_lc m167 d167_0 rfl rfl rfl
theorem d167_1 : decode cX12_isOne 1 = .ok (.iconst 0, 1) := by decide +kernel
theorem s167_1 {d : Nat} {st : List Value} {σ : am_I} {ρ : am_R} {g : am_J} {τ : am_T} {Q : am_Q} {x0 x1 x2 : Value} : AW d 167 1 [x0, x1, x2] (st) σ ρ g τ Q = AW d 167 2 [x0, x1, x2] (.int 0 :: st) σ ρ g τ Q := aw_lc m167 d167_1 rfl rfl rfl
theorem d167_2 : decode cX12_isOne 2 = .ok (.aload_n 0, 1) := by decide +kernel
theorem s167_2 {d : Nat} {st : List Value} {σ : am_I} {ρ : am_R} {g : am_J} {τ : am_T} {Q : am_Q} {x1 x2 : Value} {v : Nat} : AW d 167 2 [.ref v, x1, x2] (st) σ ρ g τ Q = AW d 167 3 [.ref v, x1, x2] (.ref v :: st) σ ρ g τ Q := aw_lc m167 d167_2 rfl rfl rfl
theorem d167_3 : decode cX12_isOne 3 = .ok (.getfield 9, 3) := by decide +kernel
theorem s167_3 {d : Nat} {st : List Value} {σ : am_I} {ρ : am_R} {g : am_J} {τ : am_T} {Q : am_Q} {x0 x1 x2 : Value} {a : Nat} (ht : τ.1 a = 12) : AW d 167 3 [x0, x1, x2] (.ref a :: st) σ ρ g τ Q = AW d 167 6 [x0, x1, x2] (va_rf (ρ a 0) :: st) σ ρ g τ Q := aw_gr m167 d167_3 rfl rfl rfl ht
theorem d167_6 : decode cX12_isOne 6 = .ok (.iload_n 1, 1) := by decide +kernel
theorem s167_6 {d : Nat} {st : List Value} {σ : am_I} {ρ : am_R} {g : am_J} {τ : am_T} {Q : am_Q} {x0 x2 : Value} {v : Int32} : AW d 167 6 [x0, .int v, x2] (st) σ ρ g τ Q = AW d 167 7 [x0, .int v, x2] (.int v :: st) σ ρ g τ Q := aw_lc m167 d167_6 rfl rfl rfl
theorem d167_7 : decode cX12_isOne 7 = .ok (.iaload, 1) := by decide +kernel
theorem s167_7 {d : Nat} {st : List Value} {σ : am_I} {ρ : am_R} {g : am_J} {τ : am_T} {Q : am_Q} {x0 x1 x2 : Value} {a : Nat} {j : Int32} (ht : τ.1 a = 15) (hj : am_inb j (τ.2.1 a) = true) : AW d 167 7 [x0, x1, x2] (.int j :: .ref a :: st) σ ρ g τ Q = AW d 167 8 [x0, x1, x2] (.int (σ a j.toNatClampNeg) :: st) σ ρ g τ Q := aw_ial m167 d167_7 rfl ht hj
theorem d167_8 : decode cX12_isOne 8 = .ok (.iconst 1, 1) := by decide +kernel
theorem s167_8 {d : Nat} {st : List Value} {σ : am_I} {ρ : am_R} {g : am_J} {τ : am_T} {Q : am_Q} {x0 x1 x2 : Value} : AW d 167 8 [x0, x1, x2] (st) σ ρ g τ Q = AW d 167 9 [x0, x1, x2] (.int 1 :: st) σ ρ g τ Q := aw_lc m167 d167_8 rfl rfl rfl
theorem d167_9 : decode cX12_isOne 9 = .ok (.isub, 1) := by decide +kernel
theorem s167_9 {d : Nat} {st : List Value} {σ : am_I} {ρ : am_R} {g : am_J} {τ : am_T} {Q : am_Q} {x0 x1 x2 : Value} {v w : Int32} : AW d 167 9 [x0, x1, x2] (.int w :: .int v :: st) σ ρ g τ Q = AW d 167 10 [x0, x1, x2] (.int (v - w) :: st) σ ρ g τ Q := aw_lc m167 d167_9 rfl rfl rfl
theorem d167_10 : decode cX12_isOne 10 = .ok (.invokestatic 194, 3) := by decide +kernel
theorem s167_10 {d : Nat} {st : List Value} {σ : am_I} {ρ : am_R} {g : am_J} {τ : am_T} {Q : am_Q} {x0 x1 x2 : Value} {p0 : Int32} {p1 : Int32} {p2 : Int32} (hs : st.length ≤ 4) : AW (d + 1) 167 10 [x0, x1, x2] (.int p2 :: .int p1 :: .int p0 :: st) σ ρ g τ Q = AW d 165 0 [.int p0, .int p1, .int p2] [] σ ρ g τ (fun r9 σ ρ g τ => AW (d + 1) 167 13 [x0, x1, x2] (r9.toList ++ st) σ ρ g τ Q) := aw_cs m167 d167_10 rfl (by simp only [List.length_cons]; omega) rfl rfl en165 ok165 rfl hs
theorem d167_13 : decode cX12_isOne 13 = .ok (.ireturn, 1) := by decide +kernel
theorem s167_13 {d : Nat} {σ : am_I} {ρ : am_R} {g : am_J} {τ : am_T} {Q : am_Q} {x0 x1 x2 : Value} {v : Int32} (hv : am_b01 v = true) : AW d 167 13 [x0, x1, x2] ([.int v]) σ ρ g τ Q = Q (some (.int v)) σ ρ g τ := aw_rz m167 d167_13 rfl hv
theorem d168_0 : decode cX12_isMutiny 0 = .ok (.aload_n 0, 1) := by decide +kernel
theorem s168_0 {d : Nat} {st : List Value} {σ : am_I} {ρ : am_R} {g : am_J} {τ : am_T} {Q : am_Q} {x1 : Value} {v : Nat} : AW d 168 0 [.ref v, x1] (st) σ ρ g τ Q = AW d 168 1 [.ref v, x1] (.ref v :: st) σ ρ g τ Q := aw_lc m168 d168_0 rfl rfl rfl
theorem d168_1 : decode cX12_isMutiny 1 = .ok (.getfield 34, 3) := by decide +kernel
theorem s168_1 {d : Nat} {st : List Value} {σ : am_I} {ρ : am_R} {g : am_J} {τ : am_T} {Q : am_Q} {x0 x1 : Value} {a : Nat} (ht : τ.1 a = 12) : AW d 168 1 [x0, x1] (.ref a :: st) σ ρ g τ Q = AW d 168 4 [x0, x1] (va_rf (ρ a 8) :: st) σ ρ g τ Q := aw_gr m168 d168_1 rfl rfl rfl ht
theorem d168_4 : decode cX12_isMutiny 4 = .ok (.iload_n 1, 1) := by decide +kernel
theorem s168_4 {d : Nat} {st : List Value} {σ : am_I} {ρ : am_R} {g : am_J} {τ : am_T} {Q : am_Q} {x0 : Value} {v : Int32} : AW d 168 4 [x0, .int v] (st) σ ρ g τ Q = AW d 168 5 [x0, .int v] (.int v :: st) σ ρ g τ Q := aw_lc m168 d168_4 rfl rfl rfl
theorem d168_5 : decode cX12_isMutiny 5 = .ok (.iaload, 1) := by decide +kernel
theorem s168_5 {d : Nat} {st : List Value} {σ : am_I} {ρ : am_R} {g : am_J} {τ : am_T} {Q : am_Q} {x0 x1 : Value} {a : Nat} {j : Int32} (ht : τ.1 a = 15) (hj : am_inb j (τ.2.1 a) = true) : AW d 168 5 [x0, x1] (.int j :: .ref a :: st) σ ρ g τ Q = AW d 168 6 [x0, x1] (.int (σ a j.toNatClampNeg) :: st) σ ρ g τ Q := aw_ial m168 d168_5 rfl ht hj
theorem d168_6 : decode cX12_isMutiny 6 = .ok (.aload_n 0, 1) := by decide +kernel
theorem s168_6 {d : Nat} {st : List Value} {σ : am_I} {ρ : am_R} {g : am_J} {τ : am_T} {Q : am_Q} {x1 : Value} {v : Nat} : AW d 168 6 [.ref v, x1] (st) σ ρ g τ Q = AW d 168 7 [.ref v, x1] (.ref v :: st) σ ρ g τ Q := aw_lc m168 d168_6 rfl rfl rfl
theorem d168_7 : decode cX12_isMutiny 7 = .ok (.getfield 31, 3) := by decide +kernel
theorem s168_7 {d : Nat} {st : List Value} {σ : am_I} {ρ : am_R} {g : am_J} {τ : am_T} {Q : am_Q} {x0 x1 : Value} {a : Nat} (ht : τ.1 a = 12) : AW d 168 7 [x0, x1] (.ref a :: st) σ ρ g τ Q = AW d 168 10 [x0, x1] (va_rf (ρ a 7) :: st) σ ρ g τ Q := aw_gr m168 d168_7 rfl rfl rfl ht
theorem d168_10 : decode cX12_isMutiny 10 = .ok (.iload_n 1, 1) := by decide +kernel
theorem s168_10 {d : Nat} {st : List Value} {σ : am_I} {ρ : am_R} {g : am_J} {τ : am_T} {Q : am_Q} {x0 : Value} {v : Int32} : AW d 168 10 [x0, .int v] (st) σ ρ g τ Q = AW d 168 11 [x0, .int v] (.int v :: st) σ ρ g τ Q := aw_lc m168 d168_10 rfl rfl rfl
theorem d168_11 : decode cX12_isMutiny 11 = .ok (.iaload, 1) := by decide +kernel
theorem s168_11 {d : Nat} {st : List Value} {σ : am_I} {ρ : am_R} {g : am_J} {τ : am_T} {Q : am_Q} {x0 x1 : Value} {a : Nat} {j : Int32} (ht : τ.1 a = 15) (hj : am_inb j (τ.2.1 a) = true) : AW d 168 11 [x0, x1] (.int j :: .ref a :: st) σ ρ g τ Q = AW d 168 12 [x0, x1] (.int (σ a j.toNatClampNeg) :: st) σ ρ g τ Q := aw_ial m168 d168_11 rfl ht hj
theorem d168_12 : decode cX12_isMutiny 12 = .ok (.if_icmp .lt 7, 3) := by decide +kernel
theorem s168_12 {d : Nat} {st : List Value} {σ : am_I} {ρ : am_R} {g : am_J} {τ : am_T} {Q : am_Q} {x0 x1 : Value} {v w : Int32} : AW d 168 12 [x0, x1] (.int w :: .int v :: st) σ ρ g τ Q = if v < w then AW d 168 19 [x0, x1] (st) σ ρ g τ Q else AW d 168 15 [x0, x1] (st) σ ρ g τ Q := aw_br m168 d168_12 rfl rfl rfl
theorem d168_15 : decode cX12_isMutiny 15 = .ok (.iconst 1, 1) := by decide +kernel
theorem s168_15 {d : Nat} {st : List Value} {σ : am_I} {ρ : am_R} {g : am_J} {τ : am_T} {Q : am_Q} {x0 x1 : Value} : AW d 168 15 [x0, x1] (st) σ ρ g τ Q = AW d 168 16 [x0, x1] (.int 1 :: st) σ ρ g τ Q := aw_lc m168 d168_15 rfl rfl rfl
theorem d168_16 : decode cX12_isMutiny 16 = .ok (.goto 4, 3) := by decide +kernel
theorem s168_16 {d : Nat} {st : List Value} {σ : am_I} {ρ : am_R} {g : am_J} {τ : am_T} {Q : am_Q} {x0 x1 : Value} : AW d 168 16 [x0, x1] (st) σ ρ g τ Q = AW d 168 20 [x0, x1] (st) σ ρ g τ Q := aw_lc m168 d168_16 rfl rfl rfl
theorem d168_19 : decode cX12_isMutiny 19 = .ok (.iconst 0, 1) := by decide +kernel
theorem s168_19 {d : Nat} {st : List Value} {σ : am_I} {ρ : am_R} {g : am_J} {τ : am_T} {Q : am_Q} {x0 x1 : Value} : AW d 168 19 [x0, x1] (st) σ ρ g τ Q = AW d 168 20 [x0, x1] (.int 0 :: st) σ ρ g τ Q := aw_lc m168 d168_19 rfl rfl rfl
theorem d168_20 : decode cX12_isMutiny 20 = .ok (.ireturn, 1) := by decide +kernel
theorem s168_20 {d : Nat} {σ : am_I} {ρ : am_R} {g : am_J} {τ : am_T} {Q : am_Q} {x0 x1 : Value} {v : Int32} (hv : am_b01 v = true) : AW d 168 20 [x0, x1] ([.int v]) σ ρ g τ Q = Q (some (.int v)) σ ρ g τ := aw_rz m168 d168_20 rfl hv
theorem d169_0 : decode cX12_due 0 = .ok (.aload_n 0, 1) := by decide +kernel
theorem s169_0 {d : Nat} {st : List Value} {σ : am_I} {ρ : am_R} {g : am_J} {τ : am_T} {Q : am_Q} {x1 x2 x3 x4 : Value} {v : Nat} : AW d 169 0 [.ref v, x1, x2, x3, x4] (st) σ ρ g τ Q = AW d 169 1 [.ref v, x1, x2, x3, x4] (.ref v :: st) σ ρ g τ Q := aw_lc m169 d169_0 rfl rfl rfl
theorem d169_1 : decode cX12_due 1 = .ok (.getfield 22, 3) := by decide +kernel
theorem s169_1 {d : Nat} {st : List Value} {σ : am_I} {ρ : am_R} {g : am_J} {τ : am_T} {Q : am_Q} {x0 x1 x2 x3 x4 : Value} {a : Nat} (ht : τ.1 a = 12) : AW d 169 1 [x0, x1, x2, x3, x4] (.ref a :: st) σ ρ g τ Q = AW d 169 4 [x0, x1, x2, x3, x4] (va_rf (ρ a 4) :: st) σ ρ g τ Q := aw_gr m169 d169_1 rfl rfl rfl ht
theorem d169_4 : decode cX12_due 4 = .ok (.iconst 3, 1) := by decide +kernel
theorem s169_4 {d : Nat} {st : List Value} {σ : am_I} {ρ : am_R} {g : am_J} {τ : am_T} {Q : am_Q} {x0 x1 x2 x3 x4 : Value} : AW d 169 4 [x0, x1, x2, x3, x4] (st) σ ρ g τ Q = AW d 169 5 [x0, x1, x2, x3, x4] (.int 3 :: st) σ ρ g τ Q := aw_lc m169 d169_4 rfl rfl rfl
theorem d169_5 : decode cX12_due 5 = .ok (.iload_n 1, 1) := by decide +kernel
theorem s169_5 {d : Nat} {st : List Value} {σ : am_I} {ρ : am_R} {g : am_J} {τ : am_T} {Q : am_Q} {x0 x2 x3 x4 : Value} {v : Int32} : AW d 169 5 [x0, .int v, x2, x3, x4] (st) σ ρ g τ Q = AW d 169 6 [x0, .int v, x2, x3, x4] (.int v :: st) σ ρ g τ Q := aw_lc m169 d169_5 rfl rfl rfl
theorem d169_6 : decode cX12_due 6 = .ok (.imul, 1) := by decide +kernel
theorem s169_6 {d : Nat} {st : List Value} {σ : am_I} {ρ : am_R} {g : am_J} {τ : am_T} {Q : am_Q} {x0 x1 x2 x3 x4 : Value} {v w : Int32} : AW d 169 6 [x0, x1, x2, x3, x4] (.int w :: .int v :: st) σ ρ g τ Q = AW d 169 7 [x0, x1, x2, x3, x4] (.int (v * w) :: st) σ ρ g τ Q := aw_lc m169 d169_6 rfl rfl rfl
theorem d169_7 : decode cX12_due 7 = .ok (.iload_n 2, 1) := by decide +kernel
theorem s169_7 {d : Nat} {st : List Value} {σ : am_I} {ρ : am_R} {g : am_J} {τ : am_T} {Q : am_Q} {x0 x1 x3 x4 : Value} {v : Int32} : AW d 169 7 [x0, x1, .int v, x3, x4] (st) σ ρ g τ Q = AW d 169 8 [x0, x1, .int v, x3, x4] (.int v :: st) σ ρ g τ Q := aw_lc m169 d169_7 rfl rfl rfl
theorem d169_8 : decode cX12_due 8 = .ok (.iadd, 1) := by decide +kernel
theorem s169_8 {d : Nat} {st : List Value} {σ : am_I} {ρ : am_R} {g : am_J} {τ : am_T} {Q : am_Q} {x0 x1 x2 x3 x4 : Value} {v w : Int32} : AW d 169 8 [x0, x1, x2, x3, x4] (.int w :: .int v :: st) σ ρ g τ Q = AW d 169 9 [x0, x1, x2, x3, x4] (.int (v + w) :: st) σ ρ g τ Q := aw_lc m169 d169_8 rfl rfl rfl
theorem d169_9 : decode cX12_due 9 = .ok (.iaload, 1) := by decide +kernel
theorem s169_9 {d : Nat} {st : List Value} {σ : am_I} {ρ : am_R} {g : am_J} {τ : am_T} {Q : am_Q} {x0 x1 x2 x3 x4 : Value} {a : Nat} {j : Int32} (ht : τ.1 a = 15) (hj : am_inb j (τ.2.1 a) = true) : AW d 169 9 [x0, x1, x2, x3, x4] (.int j :: .ref a :: st) σ ρ g τ Q = AW d 169 10 [x0, x1, x2, x3, x4] (.int (σ a j.toNatClampNeg) :: st) σ ρ g τ Q := aw_ial m169 d169_9 rfl ht hj
theorem d169_10 : decode cX12_due 10 = .ok (.aload_n 0, 1) := by decide +kernel
theorem s169_10 {d : Nat} {st : List Value} {σ : am_I} {ρ : am_R} {g : am_J} {τ : am_T} {Q : am_Q} {x1 x2 x3 x4 : Value} {v : Nat} : AW d 169 10 [.ref v, x1, x2, x3, x4] (st) σ ρ g τ Q = AW d 169 11 [.ref v, x1, x2, x3, x4] (.ref v :: st) σ ρ g τ Q := aw_lc m169 d169_10 rfl rfl rfl
theorem d169_11 : decode cX12_due 11 = .ok (.getfield 16, 3) := by decide +kernel
theorem s169_11 {d : Nat} {st : List Value} {σ : am_I} {ρ : am_R} {g : am_J} {τ : am_T} {Q : am_Q} {x0 x1 x2 x3 x4 : Value} {a : Nat} (ht : τ.1 a = 12) : AW d 169 11 [x0, x1, x2, x3, x4] (.ref a :: st) σ ρ g τ Q = AW d 169 14 [x0, x1, x2, x3, x4] (va_rf (ρ a 2) :: st) σ ρ g τ Q := aw_gr m169 d169_11 rfl rfl rfl ht
theorem d169_14 : decode cX12_due 14 = .ok (.iload_n 3, 1) := by decide +kernel
theorem s169_14 {d : Nat} {st : List Value} {σ : am_I} {ρ : am_R} {g : am_J} {τ : am_T} {Q : am_Q} {x0 x1 x2 x4 : Value} {v : Int32} : AW d 169 14 [x0, x1, x2, .int v, x4] (st) σ ρ g τ Q = AW d 169 15 [x0, x1, x2, .int v, x4] (.int v :: st) σ ρ g τ Q := aw_lc m169 d169_14 rfl rfl rfl
theorem d169_15 : decode cX12_due 15 = .ok (.bipush 12, 2) := by decide +kernel
theorem s169_15 {d : Nat} {st : List Value} {σ : am_I} {ρ : am_R} {g : am_J} {τ : am_T} {Q : am_Q} {x0 x1 x2 x3 x4 : Value} : AW d 169 15 [x0, x1, x2, x3, x4] (st) σ ρ g τ Q = AW d 169 17 [x0, x1, x2, x3, x4] (.int 12 :: st) σ ρ g τ Q := aw_lc m169 d169_15 rfl rfl rfl
theorem d169_17 : decode cX12_due 17 = .ok (.irem, 1) := by decide +kernel
theorem s169_17 {d : Nat} {st : List Value} {σ : am_I} {ρ : am_R} {g : am_J} {τ : am_T} {Q : am_Q} {x0 x1 x2 x3 x4 : Value} {v w : Int32} (h0 : ¬ w = 0) : AW d 169 17 [x0, x1, x2, x3, x4] (.int w :: .int v :: st) σ ρ g τ Q = AW d 169 18 [x0, x1, x2, x3, x4] (.int (v - v / w * w) :: st) σ ρ g τ Q := aw_rem m169 d169_17 h0 rfl
theorem d169_18 : decode cX12_due 18 = .ok (.iaload, 1) := by decide +kernel
theorem s169_18 {d : Nat} {st : List Value} {σ : am_I} {ρ : am_R} {g : am_J} {τ : am_T} {Q : am_Q} {x0 x1 x2 x3 x4 : Value} {a : Nat} {j : Int32} (ht : τ.1 a = 15) (hj : am_inb j (τ.2.1 a) = true) : AW d 169 18 [x0, x1, x2, x3, x4] (.int j :: .ref a :: st) σ ρ g τ Q = AW d 169 19 [x0, x1, x2, x3, x4] (.int (σ a j.toNatClampNeg) :: st) σ ρ g τ Q := aw_ial m169 d169_18 rfl ht hj
theorem d169_19 : decode cX12_due 19 = .ok (.imul, 1) := by decide +kernel
theorem s169_19 {d : Nat} {st : List Value} {σ : am_I} {ρ : am_R} {g : am_J} {τ : am_T} {Q : am_Q} {x0 x1 x2 x3 x4 : Value} {v w : Int32} : AW d 169 19 [x0, x1, x2, x3, x4] (.int w :: .int v :: st) σ ρ g τ Q = AW d 169 20 [x0, x1, x2, x3, x4] (.int (v * w) :: st) σ ρ g τ Q := aw_lc m169 d169_19 rfl rfl rfl
theorem d169_20 : decode cX12_due 20 = .ok (.bipush 100, 2) := by decide +kernel
theorem s169_20 {d : Nat} {st : List Value} {σ : am_I} {ρ : am_R} {g : am_J} {τ : am_T} {Q : am_Q} {x0 x1 x2 x3 x4 : Value} : AW d 169 20 [x0, x1, x2, x3, x4] (st) σ ρ g τ Q = AW d 169 22 [x0, x1, x2, x3, x4] (.int 100 :: st) σ ρ g τ Q := aw_lc m169 d169_20 rfl rfl rfl
theorem d169_22 : decode cX12_due 22 = .ok (.idiv, 1) := by decide +kernel
theorem s169_22 {d : Nat} {st : List Value} {σ : am_I} {ρ : am_R} {g : am_J} {τ : am_T} {Q : am_Q} {x0 x1 x2 x3 x4 : Value} {v w : Int32} (h0 : ¬ w = 0) : AW d 169 22 [x0, x1, x2, x3, x4] (.int w :: .int v :: st) σ ρ g τ Q = AW d 169 23 [x0, x1, x2, x3, x4] (.int (v / w) :: st) σ ρ g τ Q := aw_div m169 d169_22 h0 rfl
theorem d169_23 : decode cX12_due 23 = .ok (.iload 4, 2) := by decide +kernel
theorem s169_23 {d : Nat} {st : List Value} {σ : am_I} {ρ : am_R} {g : am_J} {τ : am_T} {Q : am_Q} {x0 x1 x2 x3 : Value} {v : Int32} : AW d 169 23 [x0, x1, x2, x3, .int v] (st) σ ρ g τ Q = AW d 169 25 [x0, x1, x2, x3, .int v] (.int v :: st) σ ρ g τ Q := aw_lc m169 d169_23 rfl rfl rfl
theorem d169_25 : decode cX12_due 25 = .ok (.imul, 1) := by decide +kernel
theorem s169_25 {d : Nat} {st : List Value} {σ : am_I} {ρ : am_R} {g : am_J} {τ : am_T} {Q : am_Q} {x0 x1 x2 x3 x4 : Value} {v w : Int32} : AW d 169 25 [x0, x1, x2, x3, x4] (.int w :: .int v :: st) σ ρ g τ Q = AW d 169 26 [x0, x1, x2, x3, x4] (.int (v * w) :: st) σ ρ g τ Q := aw_lc m169 d169_25 rfl rfl rfl
theorem d169_26 : decode cX12_due 26 = .ok (.bipush 100, 2) := by decide +kernel
theorem s169_26 {d : Nat} {st : List Value} {σ : am_I} {ρ : am_R} {g : am_J} {τ : am_T} {Q : am_Q} {x0 x1 x2 x3 x4 : Value} : AW d 169 26 [x0, x1, x2, x3, x4] (st) σ ρ g τ Q = AW d 169 28 [x0, x1, x2, x3, x4] (.int 100 :: st) σ ρ g τ Q := aw_lc m169 d169_26 rfl rfl rfl
theorem d169_28 : decode cX12_due 28 = .ok (.idiv, 1) := by decide +kernel
theorem s169_28 {d : Nat} {st : List Value} {σ : am_I} {ρ : am_R} {g : am_J} {τ : am_T} {Q : am_Q} {x0 x1 x2 x3 x4 : Value} {v w : Int32} (h0 : ¬ w = 0) : AW d 169 28 [x0, x1, x2, x3, x4] (.int w :: .int v :: st) σ ρ g τ Q = AW d 169 29 [x0, x1, x2, x3, x4] (.int (v / w) :: st) σ ρ g τ Q := aw_div m169 d169_28 h0 rfl
theorem d169_29 : decode cX12_due 29 = .ok (.ireturn, 1) := by decide +kernel
theorem s169_29 {d : Nat} {σ : am_I} {ρ : am_R} {g : am_J} {τ : am_T} {Q : am_Q} {x0 x1 x2 x3 x4 : Value} {v : Int32} : AW d 169 29 [x0, x1, x2, x3, x4] ([.int v]) σ ρ g τ Q = Q (some (.int v)) σ ρ g τ := aw_ri m169 d169_29 rfl
theorem d170_0 : decode cX12_round 0 = .ok (.aload_n 0, 1) := by decide +kernel
theorem s170_0 {d : Nat} {st : List Value} {σ : am_I} {ρ : am_R} {g : am_J} {τ : am_T} {Q : am_Q} {x1 x2 x3 x4 x5 : Value} {v : Nat} : AW d 170 0 [.ref v, x1, x2, x3, x4, x5] (st) σ ρ g τ Q = AW d 170 1 [.ref v, x1, x2, x3, x4, x5] (.ref v :: st) σ ρ g τ Q := aw_lc m170 d170_0 rfl rfl rfl
theorem d170_1 : decode cX12_round 1 = .ok (.iload_n 1, 1) := by decide +kernel
theorem s170_1 {d : Nat} {st : List Value} {σ : am_I} {ρ : am_R} {g : am_J} {τ : am_T} {Q : am_Q} {x0 x2 x3 x4 x5 : Value} {v : Int32} : AW d 170 1 [x0, .int v, x2, x3, x4, x5] (st) σ ρ g τ Q = AW d 170 2 [x0, .int v, x2, x3, x4, x5] (.int v :: st) σ ρ g τ Q := aw_lc m170 d170_1 rfl rfl rfl
theorem d170_2 : decode cX12_round 2 = .ok (.iload_n 2, 1) := by decide +kernel
theorem s170_2 {d : Nat} {st : List Value} {σ : am_I} {ρ : am_R} {g : am_J} {τ : am_T} {Q : am_Q} {x0 x1 x3 x4 x5 : Value} {v : Int32} : AW d 170 2 [x0, x1, .int v, x3, x4, x5] (st) σ ρ g τ Q = AW d 170 3 [x0, x1, .int v, x3, x4, x5] (.int v :: st) σ ρ g τ Q := aw_lc m170 d170_2 rfl rfl rfl
theorem d170_3 : decode cX12_round 3 = .ok (.iload_n 3, 1) := by decide +kernel
theorem s170_3 {d : Nat} {st : List Value} {σ : am_I} {ρ : am_R} {g : am_J} {τ : am_T} {Q : am_Q} {x0 x1 x2 x4 x5 : Value} {v : Int32} : AW d 170 3 [x0, x1, x2, .int v, x4, x5] (st) σ ρ g τ Q = AW d 170 4 [x0, x1, x2, .int v, x4, x5] (.int v :: st) σ ρ g τ Q := aw_lc m170 d170_3 rfl rfl rfl
theorem d170_4 : decode cX12_round 4 = .ok (.iload 4, 2) := by decide +kernel
theorem s170_4 {d : Nat} {st : List Value} {σ : am_I} {ρ : am_R} {g : am_J} {τ : am_T} {Q : am_Q} {x0 x1 x2 x3 x5 : Value} {v : Int32} : AW d 170 4 [x0, x1, x2, x3, .int v, x5] (st) σ ρ g τ Q = AW d 170 6 [x0, x1, x2, x3, .int v, x5] (.int v :: st) σ ρ g τ Q := aw_lc m170 d170_4 rfl rfl rfl
theorem d170_6 : decode cX12_round 6 = .ok (.invokevirtual 198, 3) := by decide +kernel
theorem s170_6 {d : Nat} {st : List Value} {σ : am_I} {ρ : am_R} {g : am_J} {τ : am_T} {Q : am_Q} {x0 x1 x2 x3 x4 x5 : Value} {p0 : Nat} {p1 : Int32} {p2 : Int32} {p3 : Int32} {p4 : Int32} (ht : τ.1 p0 = 12) (hs : st.length ≤ 4) : AW (d + 1) 170 6 [x0, x1, x2, x3, x4, x5] (.int p4 :: .int p3 :: .int p2 :: .int p1 :: .ref p0 :: st) σ ρ g τ Q = AW d 169 0 [.ref p0, .int p1, .int p2, .int p3, .int p4] [] σ ρ g τ (fun r9 σ ρ g τ => AW (d + 1) 170 9 [x0, x1, x2, x3, x4, x5] (r9.toList ++ st) σ ρ g τ Q) := aw_cv m170 d170_6 rfl m169 rfl rfl (by decide) en169 ok169 rfl ht hs
theorem d170_9 : decode cX12_round 9 = .ok (.iload 4, 2) := by decide +kernel
theorem s170_9 {d : Nat} {st : List Value} {σ : am_I} {ρ : am_R} {g : am_J} {τ : am_T} {Q : am_Q} {x0 x1 x2 x3 x5 : Value} {v : Int32} : AW d 170 9 [x0, x1, x2, x3, .int v, x5] (st) σ ρ g τ Q = AW d 170 11 [x0, x1, x2, x3, .int v, x5] (.int v :: st) σ ρ g τ Q := aw_lc m170 d170_9 rfl rfl rfl
theorem d170_11 : decode cX12_round 11 = .ok (.imul, 1) := by decide +kernel
theorem s170_11 {d : Nat} {st : List Value} {σ : am_I} {ρ : am_R} {g : am_J} {τ : am_T} {Q : am_Q} {x0 x1 x2 x3 x4 x5 : Value} {v w : Int32} : AW d 170 11 [x0, x1, x2, x3, x4, x5] (.int w :: .int v :: st) σ ρ g τ Q = AW d 170 12 [x0, x1, x2, x3, x4, x5] (.int (v * w) :: st) σ ρ g τ Q := aw_lc m170 d170_11 rfl rfl rfl
theorem d170_12 : decode cX12_round 12 = .ok (.bipush 100, 2) := by decide +kernel
theorem s170_12 {d : Nat} {st : List Value} {σ : am_I} {ρ : am_R} {g : am_J} {τ : am_T} {Q : am_Q} {x0 x1 x2 x3 x4 x5 : Value} : AW d 170 12 [x0, x1, x2, x3, x4, x5] (st) σ ρ g τ Q = AW d 170 14 [x0, x1, x2, x3, x4, x5] (.int 100 :: st) σ ρ g τ Q := aw_lc m170 d170_12 rfl rfl rfl
theorem d170_14 : decode cX12_round 14 = .ok (.idiv, 1) := by decide +kernel
theorem s170_14 {d : Nat} {st : List Value} {σ : am_I} {ρ : am_R} {g : am_J} {τ : am_T} {Q : am_Q} {x0 x1 x2 x3 x4 x5 : Value} {v w : Int32} (h0 : ¬ w = 0) : AW d 170 14 [x0, x1, x2, x3, x4, x5] (.int w :: .int v :: st) σ ρ g τ Q = AW d 170 15 [x0, x1, x2, x3, x4, x5] (.int (v / w) :: st) σ ρ g τ Q := aw_div m170 d170_14 h0 rfl
theorem d170_15 : decode cX12_round 15 = .ok (.bipush 10, 2) := by decide +kernel
theorem s170_15 {d : Nat} {st : List Value} {σ : am_I} {ρ : am_R} {g : am_J} {τ : am_T} {Q : am_Q} {x0 x1 x2 x3 x4 x5 : Value} : AW d 170 15 [x0, x1, x2, x3, x4, x5] (st) σ ρ g τ Q = AW d 170 17 [x0, x1, x2, x3, x4, x5] (.int 10 :: st) σ ρ g τ Q := aw_lc m170 d170_15 rfl rfl rfl
theorem d170_17 : decode cX12_round 17 = .ok (.iload 5, 2) := by decide +kernel
theorem s170_17 {d : Nat} {st : List Value} {σ : am_I} {ρ : am_R} {g : am_J} {τ : am_T} {Q : am_Q} {x0 x1 x2 x3 x4 : Value} {v : Int32} : AW d 170 17 [x0, x1, x2, x3, x4, .int v] (st) σ ρ g τ Q = AW d 170 19 [x0, x1, x2, x3, x4, .int v] (.int v :: st) σ ρ g τ Q := aw_lc m170 d170_17 rfl rfl rfl
theorem d170_19 : decode cX12_round 19 = .ok (.isub, 1) := by decide +kernel
theorem s170_19 {d : Nat} {st : List Value} {σ : am_I} {ρ : am_R} {g : am_J} {τ : am_T} {Q : am_Q} {x0 x1 x2 x3 x4 x5 : Value} {v w : Int32} : AW d 170 19 [x0, x1, x2, x3, x4, x5] (.int w :: .int v :: st) σ ρ g τ Q = AW d 170 20 [x0, x1, x2, x3, x4, x5] (.int (v - w) :: st) σ ρ g τ Q := aw_lc m170 d170_19 rfl rfl rfl
theorem d170_20 : decode cX12_round 20 = .ok (.imul, 1) := by decide +kernel
theorem s170_20 {d : Nat} {st : List Value} {σ : am_I} {ρ : am_R} {g : am_J} {τ : am_T} {Q : am_Q} {x0 x1 x2 x3 x4 x5 : Value} {v w : Int32} : AW d 170 20 [x0, x1, x2, x3, x4, x5] (.int w :: .int v :: st) σ ρ g τ Q = AW d 170 21 [x0, x1, x2, x3, x4, x5] (.int (v * w) :: st) σ ρ g τ Q := aw_lc m170 d170_20 rfl rfl rfl
theorem d170_21 : decode cX12_round 21 = .ok (.bipush 10, 2) := by decide +kernel
theorem s170_21 {d : Nat} {st : List Value} {σ : am_I} {ρ : am_R} {g : am_J} {τ : am_T} {Q : am_Q} {x0 x1 x2 x3 x4 x5 : Value} : AW d 170 21 [x0, x1, x2, x3, x4, x5] (st) σ ρ g τ Q = AW d 170 23 [x0, x1, x2, x3, x4, x5] (.int 10 :: st) σ ρ g τ Q := aw_lc m170 d170_21 rfl rfl rfl
theorem d170_23 : decode cX12_round 23 = .ok (.idiv, 1) := by decide +kernel
theorem s170_23 {d : Nat} {st : List Value} {σ : am_I} {ρ : am_R} {g : am_J} {τ : am_T} {Q : am_Q} {x0 x1 x2 x3 x4 x5 : Value} {v w : Int32} (h0 : ¬ w = 0) : AW d 170 23 [x0, x1, x2, x3, x4, x5] (.int w :: .int v :: st) σ ρ g τ Q = AW d 170 24 [x0, x1, x2, x3, x4, x5] (.int (v / w) :: st) σ ρ g τ Q := aw_div m170 d170_23 h0 rfl
theorem d170_24 : decode cX12_round 24 = .ok (.ireturn, 1) := by decide +kernel
theorem s170_24 {d : Nat} {σ : am_I} {ρ : am_R} {g : am_J} {τ : am_T} {Q : am_Q} {x0 x1 x2 x3 x4 x5 : Value} {v : Int32} : AW d 170 24 [x0, x1, x2, x3, x4, x5] ([.int v]) σ ρ g τ Q = Q (some (.int v)) σ ρ g τ := aw_ri m170 d170_24 rfl
theorem d171_0 : decode cX12_gathered 0 = .ok (.iconst 0, 1) := by decide +kernel
theorem s171_0 {d : Nat} {st : List Value} {σ : am_I} {ρ : am_R} {g : am_J} {τ : am_T} {Q : am_Q} {x0 x1 x2 x3 x4 x5 : Value} : AW d 171 0 [x0, x1, x2, x3, x4, x5] (st) σ ρ g τ Q = AW d 171 1 [x0, x1, x2, x3, x4, x5] (.int 0 :: st) σ ρ g τ Q := aw_lc m171 d171_0 rfl rfl rfl
theorem d171_1 : decode cX12_gathered 1 = .ok (.istore 4, 2) := by decide +kernel
theorem s171_1 {d : Nat} {st : List Value} {σ : am_I} {ρ : am_R} {g : am_J} {τ : am_T} {Q : am_Q} {x0 x1 x2 x4 x5 : Value} {v : Int32} {u : Int32} : AW d 171 1 [x0, x1, x2, .int u, x4, x5] (.int v :: st) σ ρ g τ Q = AW d 171 3 [x0, x1, x2, .int u, .int v, x5] (st) σ ρ g τ Q := aw_lc m171 d171_1 rfl rfl rfl
theorem d171_3 : decode cX12_gathered 3 = .ok (.iconst 0, 1) := by decide +kernel
theorem s171_3 {d : Nat} {st : List Value} {σ : am_I} {ρ : am_R} {g : am_J} {τ : am_T} {Q : am_Q} {x0 x1 x2 x3 x4 x5 : Value} : AW d 171 3 [x0, x1, x2, x3, x4, x5] (st) σ ρ g τ Q = AW d 171 4 [x0, x1, x2, x3, x4, x5] (.int 0 :: st) σ ρ g τ Q := aw_lc m171 d171_3 rfl rfl rfl
theorem d171_4 : decode cX12_gathered 4 = .ok (.istore 5, 2) := by decide +kernel
theorem s171_4 {d : Nat} {st : List Value} {σ : am_I} {ρ : am_R} {g : am_J} {τ : am_T} {Q : am_Q} {x0 x1 x2 x3 x5 : Value} {v : Int32} {u : Int32} : AW d 171 4 [x0, x1, x2, x3, .int u, x5] (.int v :: st) σ ρ g τ Q = AW d 171 6 [x0, x1, x2, x3, .int u, .int v] (st) σ ρ g τ Q := aw_lc m171 d171_4 rfl rfl rfl
theorem d171_6 : decode cX12_gathered 6 = .ok (.iload 5, 2) := by decide +kernel
theorem s171_6 {d : Nat} {st : List Value} {σ : am_I} {ρ : am_R} {g : am_J} {τ : am_T} {Q : am_Q} {x0 x1 x2 x3 x4 : Value} {v : Int32} : AW d 171 6 [x0, x1, x2, x3, x4, .int v] (st) σ ρ g τ Q = AW d 171 8 [x0, x1, x2, x3, x4, .int v] (.int v :: st) σ ρ g τ Q := aw_lc m171 d171_6 rfl rfl rfl
theorem d171_8 : decode cX12_gathered 8 = .ok (.aload_n 0, 1) := by decide +kernel
theorem s171_8 {d : Nat} {st : List Value} {σ : am_I} {ρ : am_R} {g : am_J} {τ : am_T} {Q : am_Q} {x1 x2 x3 x4 x5 : Value} {v : Nat} : AW d 171 8 [.ref v, x1, x2, x3, x4, x5] (st) σ ρ g τ Q = AW d 171 9 [.ref v, x1, x2, x3, x4, x5] (.ref v :: st) σ ρ g τ Q := aw_lc m171 d171_8 rfl rfl rfl
theorem d171_9 : decode cX12_gathered 9 = .ok (.getfield 9, 3) := by decide +kernel
theorem s171_9 {d : Nat} {st : List Value} {σ : am_I} {ρ : am_R} {g : am_J} {τ : am_T} {Q : am_Q} {x0 x1 x2 x3 x4 x5 : Value} {a : Nat} (ht : τ.1 a = 12) : AW d 171 9 [x0, x1, x2, x3, x4, x5] (.ref a :: st) σ ρ g τ Q = AW d 171 12 [x0, x1, x2, x3, x4, x5] (va_rf (ρ a 0) :: st) σ ρ g τ Q := aw_gr m171 d171_9 rfl rfl rfl ht
theorem d171_12 : decode cX12_gathered 12 = .ok (.iconst 1, 1) := by decide +kernel
theorem s171_12 {d : Nat} {st : List Value} {σ : am_I} {ρ : am_R} {g : am_J} {τ : am_T} {Q : am_Q} {x0 x1 x2 x3 x4 x5 : Value} : AW d 171 12 [x0, x1, x2, x3, x4, x5] (st) σ ρ g τ Q = AW d 171 13 [x0, x1, x2, x3, x4, x5] (.int 1 :: st) σ ρ g τ Q := aw_lc m171 d171_12 rfl rfl rfl
theorem d171_13 : decode cX12_gathered 13 = .ok (.iaload, 1) := by decide +kernel
theorem s171_13 {d : Nat} {st : List Value} {σ : am_I} {ρ : am_R} {g : am_J} {τ : am_T} {Q : am_Q} {x0 x1 x2 x3 x4 x5 : Value} {a : Nat} {j : Int32} (ht : τ.1 a = 15) (hj : am_inb j (τ.2.1 a) = true) : AW d 171 13 [x0, x1, x2, x3, x4, x5] (.int j :: .ref a :: st) σ ρ g τ Q = AW d 171 14 [x0, x1, x2, x3, x4, x5] (.int (σ a j.toNatClampNeg) :: st) σ ρ g τ Q := aw_ial m171 d171_13 rfl ht hj
theorem d171_14 : decode cX12_gathered 14 = .ok (.if_icmp .ge 49, 3) := by decide +kernel
theorem s171_14 {d : Nat} {st : List Value} {σ : am_I} {ρ : am_R} {g : am_J} {τ : am_T} {Q : am_Q} {x0 x1 x2 x3 x4 x5 : Value} {v w : Int32} : AW d 171 14 [x0, x1, x2, x3, x4, x5] (.int w :: .int v :: st) σ ρ g τ Q = if w ≤ v then AW d 171 63 [x0, x1, x2, x3, x4, x5] (st) σ ρ g τ Q else AW d 171 17 [x0, x1, x2, x3, x4, x5] (st) σ ρ g τ Q := aw_br m171 d171_14 rfl rfl rfl
theorem d171_17 : decode cX12_gathered 17 = .ok (.aload_n 0, 1) := by decide +kernel
theorem s171_17 {d : Nat} {st : List Value} {σ : am_I} {ρ : am_R} {g : am_J} {τ : am_T} {Q : am_Q} {x1 x2 x3 x4 x5 : Value} {v : Nat} : AW d 171 17 [.ref v, x1, x2, x3, x4, x5] (st) σ ρ g τ Q = AW d 171 18 [.ref v, x1, x2, x3, x4, x5] (.ref v :: st) σ ρ g τ Q := aw_lc m171 d171_17 rfl rfl rfl
theorem d171_18 : decode cX12_gathered 18 = .ok (.iload 5, 2) := by decide +kernel
theorem s171_18 {d : Nat} {st : List Value} {σ : am_I} {ρ : am_R} {g : am_J} {τ : am_T} {Q : am_Q} {x0 x1 x2 x3 x4 : Value} {v : Int32} : AW d 171 18 [x0, x1, x2, x3, x4, .int v] (st) σ ρ g τ Q = AW d 171 20 [x0, x1, x2, x3, x4, .int v] (.int v :: st) σ ρ g τ Q := aw_lc m171 d171_18 rfl rfl rfl
theorem d171_20 : decode cX12_gathered 20 = .ok (.invokevirtual 202, 3) := by decide +kernel
theorem s171_20 {d : Nat} {st : List Value} {σ : am_I} {ρ : am_R} {g : am_J} {τ : am_T} {Q : am_Q} {x0 x1 x2 x3 x4 x5 : Value} {p0 : Nat} {p1 : Int32} (ht : τ.1 p0 = 12) (hs : st.length ≤ 4) : AW (d + 1) 171 20 [x0, x1, x2, x3, x4, x5] (.int p1 :: .ref p0 :: st) σ ρ g τ Q = AW d 168 0 [.ref p0, .int p1] [] σ ρ g τ (fun r9 σ ρ g τ => AW (d + 1) 171 23 [x0, x1, x2, x3, x4, x5] (r9.toList ++ st) σ ρ g τ Q) := aw_cv m171 d171_20 rfl m168 rfl rfl (by decide) en168 ok168 rfl ht hs
theorem d171_23 : decode cX12_gathered 23 = .ok (.ifCond .ne 34, 3) := by decide +kernel
theorem s171_23 {d : Nat} {st : List Value} {σ : am_I} {ρ : am_R} {g : am_J} {τ : am_T} {Q : am_Q} {x0 x1 x2 x3 x4 x5 : Value} {v : Int32} : AW d 171 23 [x0, x1, x2, x3, x4, x5] (.int v :: st) σ ρ g τ Q = if ¬ v = 0 then AW d 171 57 [x0, x1, x2, x3, x4, x5] (st) σ ρ g τ Q else AW d 171 26 [x0, x1, x2, x3, x4, x5] (st) σ ρ g τ Q := aw_br m171 d171_23 rfl rfl rfl
theorem d171_26 : decode cX12_gathered 26 = .ok (.iload 4, 2) := by decide +kernel
theorem s171_26 {d : Nat} {st : List Value} {σ : am_I} {ρ : am_R} {g : am_J} {τ : am_T} {Q : am_Q} {x0 x1 x2 x3 x5 : Value} {v : Int32} : AW d 171 26 [x0, x1, x2, x3, .int v, x5] (st) σ ρ g τ Q = AW d 171 28 [x0, x1, x2, x3, .int v, x5] (.int v :: st) σ ρ g τ Q := aw_lc m171 d171_26 rfl rfl rfl
theorem d171_28 : decode cX12_gathered 28 = .ok (.aload_n 0, 1) := by decide +kernel
theorem s171_28 {d : Nat} {st : List Value} {σ : am_I} {ρ : am_R} {g : am_J} {τ : am_T} {Q : am_Q} {x1 x2 x3 x4 x5 : Value} {v : Nat} : AW d 171 28 [.ref v, x1, x2, x3, x4, x5] (st) σ ρ g τ Q = AW d 171 29 [.ref v, x1, x2, x3, x4, x5] (.ref v :: st) σ ρ g τ Q := aw_lc m171 d171_28 rfl rfl rfl
theorem d171_29 : decode cX12_gathered 29 = .ok (.iload 5, 2) := by decide +kernel
theorem s171_29 {d : Nat} {st : List Value} {σ : am_I} {ρ : am_R} {g : am_J} {τ : am_T} {Q : am_Q} {x0 x1 x2 x3 x4 : Value} {v : Int32} : AW d 171 29 [x0, x1, x2, x3, x4, .int v] (st) σ ρ g τ Q = AW d 171 31 [x0, x1, x2, x3, x4, .int v] (.int v :: st) σ ρ g τ Q := aw_lc m171 d171_29 rfl rfl rfl
theorem d171_31 : decode cX12_gathered 31 = .ok (.iload_n 1, 1) := by decide +kernel
theorem s171_31 {d : Nat} {st : List Value} {σ : am_I} {ρ : am_R} {g : am_J} {τ : am_T} {Q : am_Q} {x0 x2 x3 x4 x5 : Value} {v : Int32} : AW d 171 31 [x0, .int v, x2, x3, x4, x5] (st) σ ρ g τ Q = AW d 171 32 [x0, .int v, x2, x3, x4, x5] (.int v :: st) σ ρ g τ Q := aw_lc m171 d171_31 rfl rfl rfl
theorem d171_32 : decode cX12_gathered 32 = .ok (.iload_n 2, 1) := by decide +kernel
theorem s171_32 {d : Nat} {st : List Value} {σ : am_I} {ρ : am_R} {g : am_J} {τ : am_T} {Q : am_Q} {x0 x1 x3 x4 x5 : Value} {v : Int32} : AW d 171 32 [x0, x1, .int v, x3, x4, x5] (st) σ ρ g τ Q = AW d 171 33 [x0, x1, .int v, x3, x4, x5] (.int v :: st) σ ρ g τ Q := aw_lc m171 d171_32 rfl rfl rfl
theorem d171_33 : decode cX12_gathered 33 = .ok (.iload_n 3, 1) := by decide +kernel
theorem s171_33 {d : Nat} {st : List Value} {σ : am_I} {ρ : am_R} {g : am_J} {τ : am_T} {Q : am_Q} {x0 x1 x2 x4 x5 : Value} {v : Int32} : AW d 171 33 [x0, x1, x2, .int v, x4, x5] (st) σ ρ g τ Q = AW d 171 34 [x0, x1, x2, .int v, x4, x5] (.int v :: st) σ ρ g τ Q := aw_lc m171 d171_33 rfl rfl rfl
theorem d171_34 : decode cX12_gathered 34 = .ok (.invokevirtual 198, 3) := by decide +kernel
theorem s171_34 {d : Nat} {st : List Value} {σ : am_I} {ρ : am_R} {g : am_J} {τ : am_T} {Q : am_Q} {x0 x1 x2 x3 x4 x5 : Value} {p0 : Nat} {p1 : Int32} {p2 : Int32} {p3 : Int32} {p4 : Int32} (ht : τ.1 p0 = 12) (hs : st.length ≤ 4) : AW (d + 1) 171 34 [x0, x1, x2, x3, x4, x5] (.int p4 :: .int p3 :: .int p2 :: .int p1 :: .ref p0 :: st) σ ρ g τ Q = AW d 169 0 [.ref p0, .int p1, .int p2, .int p3, .int p4] [] σ ρ g τ (fun r9 σ ρ g τ => AW (d + 1) 171 37 [x0, x1, x2, x3, x4, x5] (r9.toList ++ st) σ ρ g τ Q) := aw_cv m171 d171_34 rfl m169 rfl rfl (by decide) en169 ok169 rfl ht hs
theorem d171_37 : decode cX12_gathered 37 = .ok (.aload_n 0, 1) := by decide +kernel
theorem s171_37 {d : Nat} {st : List Value} {σ : am_I} {ρ : am_R} {g : am_J} {τ : am_T} {Q : am_Q} {x1 x2 x3 x4 x5 : Value} {v : Nat} : AW d 171 37 [.ref v, x1, x2, x3, x4, x5] (st) σ ρ g τ Q = AW d 171 38 [.ref v, x1, x2, x3, x4, x5] (.ref v :: st) σ ρ g τ Q := aw_lc m171 d171_37 rfl rfl rfl
theorem d171_38 : decode cX12_gathered 38 = .ok (.iload 5, 2) := by decide +kernel
theorem s171_38 {d : Nat} {st : List Value} {σ : am_I} {ρ : am_R} {g : am_J} {τ : am_T} {Q : am_Q} {x0 x1 x2 x3 x4 : Value} {v : Int32} : AW d 171 38 [x0, x1, x2, x3, x4, .int v] (st) σ ρ g τ Q = AW d 171 40 [x0, x1, x2, x3, x4, .int v] (.int v :: st) σ ρ g τ Q := aw_lc m171 d171_38 rfl rfl rfl
theorem d171_40 : decode cX12_gathered 40 = .ok (.iload_n 1, 1) := by decide +kernel
theorem s171_40 {d : Nat} {st : List Value} {σ : am_I} {ρ : am_R} {g : am_J} {τ : am_T} {Q : am_Q} {x0 x2 x3 x4 x5 : Value} {v : Int32} : AW d 171 40 [x0, .int v, x2, x3, x4, x5] (st) σ ρ g τ Q = AW d 171 41 [x0, .int v, x2, x3, x4, x5] (.int v :: st) σ ρ g τ Q := aw_lc m171 d171_40 rfl rfl rfl
theorem d171_41 : decode cX12_gathered 41 = .ok (.iload_n 2, 1) := by decide +kernel
theorem s171_41 {d : Nat} {st : List Value} {σ : am_I} {ρ : am_R} {g : am_J} {τ : am_T} {Q : am_Q} {x0 x1 x3 x4 x5 : Value} {v : Int32} : AW d 171 41 [x0, x1, .int v, x3, x4, x5] (st) σ ρ g τ Q = AW d 171 42 [x0, x1, .int v, x3, x4, x5] (.int v :: st) σ ρ g τ Q := aw_lc m171 d171_41 rfl rfl rfl
theorem d171_42 : decode cX12_gathered 42 = .ok (.iload_n 3, 1) := by decide +kernel
theorem s171_42 {d : Nat} {st : List Value} {σ : am_I} {ρ : am_R} {g : am_J} {τ : am_T} {Q : am_Q} {x0 x1 x2 x4 x5 : Value} {v : Int32} : AW d 171 42 [x0, x1, x2, .int v, x4, x5] (st) σ ρ g τ Q = AW d 171 43 [x0, x1, x2, .int v, x4, x5] (.int v :: st) σ ρ g τ Q := aw_lc m171 d171_42 rfl rfl rfl
theorem d171_43 : decode cX12_gathered 43 = .ok (.aload_n 0, 1) := by decide +kernel
theorem s171_43 {d : Nat} {st : List Value} {σ : am_I} {ρ : am_R} {g : am_J} {τ : am_T} {Q : am_Q} {x1 x2 x3 x4 x5 : Value} {v : Nat} : AW d 171 43 [.ref v, x1, x2, x3, x4, x5] (st) σ ρ g τ Q = AW d 171 44 [.ref v, x1, x2, x3, x4, x5] (.ref v :: st) σ ρ g τ Q := aw_lc m171 d171_43 rfl rfl rfl
theorem d171_44 : decode cX12_gathered 44 = .ok (.getfield 25, 3) := by decide +kernel
theorem s171_44 {d : Nat} {st : List Value} {σ : am_I} {ρ : am_R} {g : am_J} {τ : am_T} {Q : am_Q} {x0 x1 x2 x3 x4 x5 : Value} {a : Nat} (ht : τ.1 a = 12) : AW d 171 44 [x0, x1, x2, x3, x4, x5] (.ref a :: st) σ ρ g τ Q = AW d 171 47 [x0, x1, x2, x3, x4, x5] (va_rf (ρ a 5) :: st) σ ρ g τ Q := aw_gr m171 d171_44 rfl rfl rfl ht
theorem d171_47 : decode cX12_gathered 47 = .ok (.iload 5, 2) := by decide +kernel
theorem s171_47 {d : Nat} {st : List Value} {σ : am_I} {ρ : am_R} {g : am_J} {τ : am_T} {Q : am_Q} {x0 x1 x2 x3 x4 : Value} {v : Int32} : AW d 171 47 [x0, x1, x2, x3, x4, .int v] (st) σ ρ g τ Q = AW d 171 49 [x0, x1, x2, x3, x4, .int v] (.int v :: st) σ ρ g τ Q := aw_lc m171 d171_47 rfl rfl rfl
theorem d171_49 : decode cX12_gathered 49 = .ok (.iaload, 1) := by decide +kernel
theorem s171_49 {d : Nat} {st : List Value} {σ : am_I} {ρ : am_R} {g : am_J} {τ : am_T} {Q : am_Q} {x0 x1 x2 x3 x4 x5 : Value} {a : Nat} {j : Int32} (ht : τ.1 a = 15) (hj : am_inb j (τ.2.1 a) = true) : AW d 171 49 [x0, x1, x2, x3, x4, x5] (.int j :: .ref a :: st) σ ρ g τ Q = AW d 171 50 [x0, x1, x2, x3, x4, x5] (.int (σ a j.toNatClampNeg) :: st) σ ρ g τ Q := aw_ial m171 d171_49 rfl ht hj
theorem d171_50 : decode cX12_gathered 50 = .ok (.invokevirtual 206, 3) := by decide +kernel
theorem s171_50 {d : Nat} {st : List Value} {σ : am_I} {ρ : am_R} {g : am_J} {τ : am_T} {Q : am_Q} {x0 x1 x2 x3 x4 x5 : Value} {p0 : Nat} {p1 : Int32} {p2 : Int32} {p3 : Int32} {p4 : Int32} {p5 : Int32} (ht : τ.1 p0 = 12) (hs : st.length ≤ 4) : AW (d + 1) 171 50 [x0, x1, x2, x3, x4, x5] (.int p5 :: .int p4 :: .int p3 :: .int p2 :: .int p1 :: .ref p0 :: st) σ ρ g τ Q = AW d 170 0 [.ref p0, .int p1, .int p2, .int p3, .int p4, .int p5] [] σ ρ g τ (fun r9 σ ρ g τ => AW (d + 1) 171 53 [x0, x1, x2, x3, x4, x5] (r9.toList ++ st) σ ρ g τ Q) := aw_cv m171 d171_50 rfl m170 rfl rfl (by decide) en170 ok170 rfl ht hs
theorem d171_53 : decode cX12_gathered 53 = .ok (.isub, 1) := by decide +kernel
theorem s171_53 {d : Nat} {st : List Value} {σ : am_I} {ρ : am_R} {g : am_J} {τ : am_T} {Q : am_Q} {x0 x1 x2 x3 x4 x5 : Value} {v w : Int32} : AW d 171 53 [x0, x1, x2, x3, x4, x5] (.int w :: .int v :: st) σ ρ g τ Q = AW d 171 54 [x0, x1, x2, x3, x4, x5] (.int (v - w) :: st) σ ρ g τ Q := aw_lc m171 d171_53 rfl rfl rfl
theorem d171_54 : decode cX12_gathered 54 = .ok (.iadd, 1) := by decide +kernel
theorem s171_54 {d : Nat} {st : List Value} {σ : am_I} {ρ : am_R} {g : am_J} {τ : am_T} {Q : am_Q} {x0 x1 x2 x3 x4 x5 : Value} {v w : Int32} : AW d 171 54 [x0, x1, x2, x3, x4, x5] (.int w :: .int v :: st) σ ρ g τ Q = AW d 171 55 [x0, x1, x2, x3, x4, x5] (.int (v + w) :: st) σ ρ g τ Q := aw_lc m171 d171_54 rfl rfl rfl
theorem d171_55 : decode cX12_gathered 55 = .ok (.istore 4, 2) := by decide +kernel
theorem s171_55 {d : Nat} {st : List Value} {σ : am_I} {ρ : am_R} {g : am_J} {τ : am_T} {Q : am_Q} {x0 x1 x2 x4 x5 : Value} {v : Int32} {u : Int32} : AW d 171 55 [x0, x1, x2, .int u, x4, x5] (.int v :: st) σ ρ g τ Q = AW d 171 57 [x0, x1, x2, .int u, .int v, x5] (st) σ ρ g τ Q := aw_lc m171 d171_55 rfl rfl rfl
theorem d171_57 : decode cX12_gathered 57 = .ok (.iinc 5 1, 3) := by decide +kernel
theorem s171_57 {d : Nat} {st : List Value} {σ : am_I} {ρ : am_R} {g : am_J} {τ : am_T} {Q : am_Q} {x0 x1 x2 x3 : Value} {v : Int32} {u : Int32} : AW d 171 57 [x0, x1, x2, x3, .int u, .int v] (st) σ ρ g τ Q = AW d 171 60 [x0, x1, x2, x3, .int u, .int (v + 1)] (st) σ ρ g τ Q := aw_lc m171 d171_57 rfl rfl rfl
theorem d171_60 : decode cX12_gathered 60 = .ok (.goto (-54), 3) := by decide +kernel
theorem s171_60 {d : Nat} {st : List Value} {σ : am_I} {ρ : am_R} {g : am_J} {τ : am_T} {Q : am_Q} {x0 x1 x2 x3 x4 x5 : Value} : AW d 171 60 [x0, x1, x2, x3, x4, x5] (st) σ ρ g τ Q = AW d 171 6 [x0, x1, x2, x3, x4, x5] (st) σ ρ g τ Q := aw_lc m171 d171_60 rfl rfl rfl
theorem d171_63 : decode cX12_gathered 63 = .ok (.iload 4, 2) := by decide +kernel
theorem s171_63 {d : Nat} {st : List Value} {σ : am_I} {ρ : am_R} {g : am_J} {τ : am_T} {Q : am_Q} {x0 x1 x2 x3 x5 : Value} {v : Int32} : AW d 171 63 [x0, x1, x2, x3, .int v, x5] (st) σ ρ g τ Q = AW d 171 65 [x0, x1, x2, x3, .int v, x5] (.int v :: st) σ ρ g τ Q := aw_lc m171 d171_63 rfl rfl rfl
theorem d171_65 : decode cX12_gathered 65 = .ok (.ireturn, 1) := by decide +kernel
theorem s171_65 {d : Nat} {σ : am_I} {ρ : am_R} {g : am_J} {τ : am_T} {Q : am_Q} {x0 x1 x2 x3 x4 x5 : Value} {v : Int32} : AW d 171 65 [x0, x1, x2, x3, x4, x5] ([.int v]) σ ρ g τ Q = Q (some (.int v)) σ ρ g τ := aw_ri m171 d171_65 rfl
theorem d172_0 : decode cX12_province 0 = .ok (.iload_n 1, 1) := by decide +kernel
theorem s172_0 {d : Nat} {st : List Value} {σ : am_I} {ρ : am_R} {g : am_J} {τ : am_T} {Q : am_Q} {x0 x2 x3 x4 : Value} {v : Int32} : AW d 172 0 [x0, .int v, x2, x3, x4] (st) σ ρ g τ Q = AW d 172 1 [x0, .int v, x2, x3, x4] (.int v :: st) σ ρ g τ Q := aw_lc m172 d172_0 rfl rfl rfl
theorem d172_1 : decode cX12_province 1 = .ok (.iconst 0, 1) := by decide +kernel
theorem s172_1 {d : Nat} {st : List Value} {σ : am_I} {ρ : am_R} {g : am_J} {τ : am_T} {Q : am_Q} {x0 x1 x2 x3 x4 : Value} : AW d 172 1 [x0, x1, x2, x3, x4] (st) σ ρ g τ Q = AW d 172 2 [x0, x1, x2, x3, x4] (.int 0 :: st) σ ρ g τ Q := aw_lc m172 d172_1 rfl rfl rfl
theorem d172_2 : decode cX12_province 2 = .ok (.bipush 99, 2) := by decide +kernel
theorem s172_2 {d : Nat} {st : List Value} {σ : am_I} {ρ : am_R} {g : am_J} {τ : am_T} {Q : am_Q} {x0 x1 x2 x3 x4 : Value} : AW d 172 2 [x0, x1, x2, x3, x4] (st) σ ρ g τ Q = AW d 172 4 [x0, x1, x2, x3, x4] (.int 99 :: st) σ ρ g τ Q := aw_lc m172 d172_2 rfl rfl rfl
theorem d172_4 : decode cX12_province 4 = .ok (.invokestatic 194, 3) := by decide +kernel
theorem s172_4 {d : Nat} {st : List Value} {σ : am_I} {ρ : am_R} {g : am_J} {τ : am_T} {Q : am_Q} {x0 x1 x2 x3 x4 : Value} {p0 : Int32} {p1 : Int32} {p2 : Int32} (hs : st.length ≤ 4) : AW (d + 1) 172 4 [x0, x1, x2, x3, x4] (.int p2 :: .int p1 :: .int p0 :: st) σ ρ g τ Q = AW d 165 0 [.int p0, .int p1, .int p2] [] σ ρ g τ (fun r9 σ ρ g τ => AW (d + 1) 172 7 [x0, x1, x2, x3, x4] (r9.toList ++ st) σ ρ g τ Q) := aw_cs m172 d172_4 rfl (by simp only [List.length_cons]; omega) rfl rfl en165 ok165 rfl hs
theorem d172_7 : decode cX12_province 7 = .ok (.ifCond .eq 13, 3) := by decide +kernel
theorem s172_7 {d : Nat} {st : List Value} {σ : am_I} {ρ : am_R} {g : am_J} {τ : am_T} {Q : am_Q} {x0 x1 x2 x3 x4 : Value} {v : Int32} : AW d 172 7 [x0, x1, x2, x3, x4] (.int v :: st) σ ρ g τ Q = if v = 0 then AW d 172 20 [x0, x1, x2, x3, x4] (st) σ ρ g τ Q else AW d 172 10 [x0, x1, x2, x3, x4] (st) σ ρ g τ Q := aw_br m172 d172_7 rfl rfl rfl
theorem d172_10 : decode cX12_province 10 = .ok (.iload_n 2, 1) := by decide +kernel
theorem s172_10 {d : Nat} {st : List Value} {σ : am_I} {ρ : am_R} {g : am_J} {τ : am_T} {Q : am_Q} {x0 x1 x3 x4 : Value} {v : Int32} : AW d 172 10 [x0, x1, .int v, x3, x4] (st) σ ρ g τ Q = AW d 172 11 [x0, x1, .int v, x3, x4] (.int v :: st) σ ρ g τ Q := aw_lc m172 d172_10 rfl rfl rfl
theorem d172_11 : decode cX12_province 11 = .ok (.iconst 1, 1) := by decide +kernel
theorem s172_11 {d : Nat} {st : List Value} {σ : am_I} {ρ : am_R} {g : am_J} {τ : am_T} {Q : am_Q} {x0 x1 x2 x3 x4 : Value} : AW d 172 11 [x0, x1, x2, x3, x4] (st) σ ρ g τ Q = AW d 172 12 [x0, x1, x2, x3, x4] (.int 1 :: st) σ ρ g τ Q := aw_lc m172 d172_11 rfl rfl rfl
theorem d172_12 : decode cX12_province 12 = .ok (.bipush 12, 2) := by decide +kernel
theorem s172_12 {d : Nat} {st : List Value} {σ : am_I} {ρ : am_R} {g : am_J} {τ : am_T} {Q : am_Q} {x0 x1 x2 x3 x4 : Value} : AW d 172 12 [x0, x1, x2, x3, x4] (st) σ ρ g τ Q = AW d 172 14 [x0, x1, x2, x3, x4] (.int 12 :: st) σ ρ g τ Q := aw_lc m172 d172_12 rfl rfl rfl
theorem d172_14 : decode cX12_province 14 = .ok (.invokestatic 194, 3) := by decide +kernel
theorem s172_14 {d : Nat} {st : List Value} {σ : am_I} {ρ : am_R} {g : am_J} {τ : am_T} {Q : am_Q} {x0 x1 x2 x3 x4 : Value} {p0 : Int32} {p1 : Int32} {p2 : Int32} (hs : st.length ≤ 4) : AW (d + 1) 172 14 [x0, x1, x2, x3, x4] (.int p2 :: .int p1 :: .int p0 :: st) σ ρ g τ Q = AW d 165 0 [.int p0, .int p1, .int p2] [] σ ρ g τ (fun r9 σ ρ g τ => AW (d + 1) 172 17 [x0, x1, x2, x3, x4] (r9.toList ++ st) σ ρ g τ Q) := aw_cs m172 d172_14 rfl (by simp only [List.length_cons]; omega) rfl rfl en165 ok165 rfl hs
theorem d172_17 : decode cX12_province 17 = .ok (.ifCond .ne 5, 3) := by decide +kernel
theorem s172_17 {d : Nat} {st : List Value} {σ : am_I} {ρ : am_R} {g : am_J} {τ : am_T} {Q : am_Q} {x0 x1 x2 x3 x4 : Value} {v : Int32} : AW d 172 17 [x0, x1, x2, x3, x4] (.int v :: st) σ ρ g τ Q = if ¬ v = 0 then AW d 172 22 [x0, x1, x2, x3, x4] (st) σ ρ g τ Q else AW d 172 20 [x0, x1, x2, x3, x4] (st) σ ρ g τ Q := aw_br m172 d172_17 rfl rfl rfl
theorem d172_20 : decode cX12_province 20 = .ok (.iconst (-1), 1) := by decide +kernel
theorem s172_20 {d : Nat} {st : List Value} {σ : am_I} {ρ : am_R} {g : am_J} {τ : am_T} {Q : am_Q} {x0 x1 x2 x3 x4 : Value} : AW d 172 20 [x0, x1, x2, x3, x4] (st) σ ρ g τ Q = AW d 172 21 [x0, x1, x2, x3, x4] (.int (-1) :: st) σ ρ g τ Q := aw_lc m172 d172_20 rfl rfl rfl
theorem d172_21 : decode cX12_province 21 = .ok (.ireturn, 1) := by decide +kernel
theorem s172_21 {d : Nat} {σ : am_I} {ρ : am_R} {g : am_J} {τ : am_T} {Q : am_Q} {x0 x1 x2 x3 x4 : Value} {v : Int32} : AW d 172 21 [x0, x1, x2, x3, x4] ([.int v]) σ ρ g τ Q = Q (some (.int v)) σ ρ g τ := aw_ri m172 d172_21 rfl
theorem d172_22 : decode cX12_province 22 = .ok (.aload_n 0, 1) := by decide +kernel
theorem s172_22 {d : Nat} {st : List Value} {σ : am_I} {ρ : am_R} {g : am_J} {τ : am_T} {Q : am_Q} {x1 x2 x3 x4 : Value} {v : Nat} : AW d 172 22 [.ref v, x1, x2, x3, x4] (st) σ ρ g τ Q = AW d 172 23 [.ref v, x1, x2, x3, x4] (.ref v :: st) σ ρ g τ Q := aw_lc m172 d172_22 rfl rfl rfl
theorem d172_23 : decode cX12_province 23 = .ok (.getfield 9, 3) := by decide +kernel
theorem s172_23 {d : Nat} {st : List Value} {σ : am_I} {ρ : am_R} {g : am_J} {τ : am_T} {Q : am_Q} {x0 x1 x2 x3 x4 : Value} {a : Nat} (ht : τ.1 a = 12) : AW d 172 23 [x0, x1, x2, x3, x4] (.ref a :: st) σ ρ g τ Q = AW d 172 26 [x0, x1, x2, x3, x4] (va_rf (ρ a 0) :: st) σ ρ g τ Q := aw_gr m172 d172_23 rfl rfl rfl ht
theorem d172_26 : decode cX12_province 26 = .ok (.iconst 1, 1) := by decide +kernel
theorem s172_26 {d : Nat} {st : List Value} {σ : am_I} {ρ : am_R} {g : am_J} {τ : am_T} {Q : am_Q} {x0 x1 x2 x3 x4 : Value} : AW d 172 26 [x0, x1, x2, x3, x4] (st) σ ρ g τ Q = AW d 172 27 [x0, x1, x2, x3, x4] (.int 1 :: st) σ ρ g τ Q := aw_lc m172 d172_26 rfl rfl rfl
theorem d172_27 : decode cX12_province 27 = .ok (.iaload, 1) := by decide +kernel
theorem s172_27 {d : Nat} {st : List Value} {σ : am_I} {ρ : am_R} {g : am_J} {τ : am_T} {Q : am_Q} {x0 x1 x2 x3 x4 : Value} {a : Nat} {j : Int32} (ht : τ.1 a = 15) (hj : am_inb j (τ.2.1 a) = true) : AW d 172 27 [x0, x1, x2, x3, x4] (.int j :: .ref a :: st) σ ρ g τ Q = AW d 172 28 [x0, x1, x2, x3, x4] (.int (σ a j.toNatClampNeg) :: st) σ ρ g τ Q := aw_ial m172 d172_27 rfl ht hj
theorem d172_28 : decode cX12_province 28 = .ok (.bipush 8, 2) := by decide +kernel
theorem s172_28 {d : Nat} {st : List Value} {σ : am_I} {ρ : am_R} {g : am_J} {τ : am_T} {Q : am_Q} {x0 x1 x2 x3 x4 : Value} : AW d 172 28 [x0, x1, x2, x3, x4] (st) σ ρ g τ Q = AW d 172 30 [x0, x1, x2, x3, x4] (.int 8 :: st) σ ρ g τ Q := aw_lc m172 d172_28 rfl rfl rfl
theorem d172_30 : decode cX12_province 30 = .ok (.if_icmp .ne 6, 3) := by decide +kernel
theorem s172_30 {d : Nat} {st : List Value} {σ : am_I} {ρ : am_R} {g : am_J} {τ : am_T} {Q : am_Q} {x0 x1 x2 x3 x4 : Value} {v w : Int32} : AW d 172 30 [x0, x1, x2, x3, x4] (.int w :: .int v :: st) σ ρ g τ Q = if ¬ v = w then AW d 172 36 [x0, x1, x2, x3, x4] (st) σ ρ g τ Q else AW d 172 33 [x0, x1, x2, x3, x4] (st) σ ρ g τ Q := aw_br m172 d172_30 rfl rfl rfl
theorem d172_33 : decode cX12_province 33 = .ok (.bipush (-2), 2) := by decide +kernel
theorem s172_33 {d : Nat} {st : List Value} {σ : am_I} {ρ : am_R} {g : am_J} {τ : am_T} {Q : am_Q} {x0 x1 x2 x3 x4 : Value} : AW d 172 33 [x0, x1, x2, x3, x4] (st) σ ρ g τ Q = AW d 172 35 [x0, x1, x2, x3, x4] (.int (-2) :: st) σ ρ g τ Q := aw_lc m172 d172_33 rfl rfl rfl
theorem d172_35 : decode cX12_province 35 = .ok (.ireturn, 1) := by decide +kernel
theorem s172_35 {d : Nat} {σ : am_I} {ρ : am_R} {g : am_J} {τ : am_T} {Q : am_Q} {x0 x1 x2 x3 x4 : Value} {v : Int32} : AW d 172 35 [x0, x1, x2, x3, x4] ([.int v]) σ ρ g τ Q = Q (some (.int v)) σ ρ g τ := aw_ri m172 d172_35 rfl
theorem d172_36 : decode cX12_province 36 = .ok (.aload_n 0, 1) := by decide +kernel
theorem s172_36 {d : Nat} {st : List Value} {σ : am_I} {ρ : am_R} {g : am_J} {τ : am_T} {Q : am_Q} {x1 x2 x3 x4 : Value} {v : Nat} : AW d 172 36 [.ref v, x1, x2, x3, x4] (st) σ ρ g τ Q = AW d 172 37 [.ref v, x1, x2, x3, x4] (.ref v :: st) σ ρ g τ Q := aw_lc m172 d172_36 rfl rfl rfl
theorem d172_37 : decode cX12_province 37 = .ok (.getfield 9, 3) := by decide +kernel
theorem s172_37 {d : Nat} {st : List Value} {σ : am_I} {ρ : am_R} {g : am_J} {τ : am_T} {Q : am_Q} {x0 x1 x2 x3 x4 : Value} {a : Nat} (ht : τ.1 a = 12) : AW d 172 37 [x0, x1, x2, x3, x4] (.ref a :: st) σ ρ g τ Q = AW d 172 40 [x0, x1, x2, x3, x4] (va_rf (ρ a 0) :: st) σ ρ g τ Q := aw_gr m172 d172_37 rfl rfl rfl ht
theorem d172_40 : decode cX12_province 40 = .ok (.iconst 1, 1) := by decide +kernel
theorem s172_40 {d : Nat} {st : List Value} {σ : am_I} {ρ : am_R} {g : am_J} {τ : am_T} {Q : am_Q} {x0 x1 x2 x3 x4 : Value} : AW d 172 40 [x0, x1, x2, x3, x4] (st) σ ρ g τ Q = AW d 172 41 [x0, x1, x2, x3, x4] (.int 1 :: st) σ ρ g τ Q := aw_lc m172 d172_40 rfl rfl rfl
theorem d172_41 : decode cX12_province 41 = .ok (.iaload, 1) := by decide +kernel
theorem s172_41 {d : Nat} {st : List Value} {σ : am_I} {ρ : am_R} {g : am_J} {τ : am_T} {Q : am_Q} {x0 x1 x2 x3 x4 : Value} {a : Nat} {j : Int32} (ht : τ.1 a = 15) (hj : am_inb j (τ.2.1 a) = true) : AW d 172 41 [x0, x1, x2, x3, x4] (.int j :: .ref a :: st) σ ρ g τ Q = AW d 172 42 [x0, x1, x2, x3, x4] (.int (σ a j.toNatClampNeg) :: st) σ ρ g τ Q := aw_ial m172 d172_41 rfl ht hj
theorem d172_42 : decode cX12_province 42 = .ok (.istore_n 3, 1) := by decide +kernel
theorem s172_42 {d : Nat} {st : List Value} {σ : am_I} {ρ : am_R} {g : am_J} {τ : am_T} {Q : am_Q} {x0 x1 x3 x4 : Value} {v : Int32} {u : Int32} : AW d 172 42 [x0, x1, .int u, x3, x4] (.int v :: st) σ ρ g τ Q = AW d 172 43 [x0, x1, .int u, .int v, x4] (st) σ ρ g τ Q := aw_lc m172 d172_42 rfl rfl rfl
theorem d172_43 : decode cX12_province 43 = .ok (.iconst 0, 1) := by decide +kernel
theorem s172_43 {d : Nat} {st : List Value} {σ : am_I} {ρ : am_R} {g : am_J} {τ : am_T} {Q : am_Q} {x0 x1 x2 x3 x4 : Value} : AW d 172 43 [x0, x1, x2, x3, x4] (st) σ ρ g τ Q = AW d 172 44 [x0, x1, x2, x3, x4] (.int 0 :: st) σ ρ g τ Q := aw_lc m172 d172_43 rfl rfl rfl
theorem d172_44 : decode cX12_province 44 = .ok (.istore 4, 2) := by decide +kernel
theorem s172_44 {d : Nat} {st : List Value} {σ : am_I} {ρ : am_R} {g : am_J} {τ : am_T} {Q : am_Q} {x0 x1 x2 x4 : Value} {v : Int32} {u : Int32} : AW d 172 44 [x0, x1, x2, .int u, x4] (.int v :: st) σ ρ g τ Q = AW d 172 46 [x0, x1, x2, .int u, .int v] (st) σ ρ g τ Q := aw_lc m172 d172_44 rfl rfl rfl
theorem d172_46 : decode cX12_province 46 = .ok (.iload 4, 2) := by decide +kernel
theorem s172_46 {d : Nat} {st : List Value} {σ : am_I} {ρ : am_R} {g : am_J} {τ : am_T} {Q : am_Q} {x0 x1 x2 x3 : Value} {v : Int32} : AW d 172 46 [x0, x1, x2, x3, .int v] (st) σ ρ g τ Q = AW d 172 48 [x0, x1, x2, x3, .int v] (.int v :: st) σ ρ g τ Q := aw_lc m172 d172_46 rfl rfl rfl
theorem d172_48 : decode cX12_province 48 = .ok (.iconst 3, 1) := by decide +kernel
theorem s172_48 {d : Nat} {st : List Value} {σ : am_I} {ρ : am_R} {g : am_J} {τ : am_T} {Q : am_Q} {x0 x1 x2 x3 x4 : Value} : AW d 172 48 [x0, x1, x2, x3, x4] (st) σ ρ g τ Q = AW d 172 49 [x0, x1, x2, x3, x4] (.int 3 :: st) σ ρ g τ Q := aw_lc m172 d172_48 rfl rfl rfl
theorem d172_49 : decode cX12_province 49 = .ok (.if_icmp .ge 21, 3) := by decide +kernel
theorem s172_49 {d : Nat} {st : List Value} {σ : am_I} {ρ : am_R} {g : am_J} {τ : am_T} {Q : am_Q} {x0 x1 x2 x3 x4 : Value} {v w : Int32} : AW d 172 49 [x0, x1, x2, x3, x4] (.int w :: .int v :: st) σ ρ g τ Q = if w ≤ v then AW d 172 70 [x0, x1, x2, x3, x4] (st) σ ρ g τ Q else AW d 172 52 [x0, x1, x2, x3, x4] (st) σ ρ g τ Q := aw_br m172 d172_49 rfl rfl rfl
theorem d172_52 : decode cX12_province 52 = .ok (.aload_n 0, 1) := by decide +kernel
theorem s172_52 {d : Nat} {st : List Value} {σ : am_I} {ρ : am_R} {g : am_J} {τ : am_T} {Q : am_Q} {x1 x2 x3 x4 : Value} {v : Nat} : AW d 172 52 [.ref v, x1, x2, x3, x4] (st) σ ρ g τ Q = AW d 172 53 [.ref v, x1, x2, x3, x4] (.ref v :: st) σ ρ g τ Q := aw_lc m172 d172_52 rfl rfl rfl
theorem d172_53 : decode cX12_province 53 = .ok (.getfield 22, 3) := by decide +kernel
theorem s172_53 {d : Nat} {st : List Value} {σ : am_I} {ρ : am_R} {g : am_J} {τ : am_T} {Q : am_Q} {x0 x1 x2 x3 x4 : Value} {a : Nat} (ht : τ.1 a = 12) : AW d 172 53 [x0, x1, x2, x3, x4] (.ref a :: st) σ ρ g τ Q = AW d 172 56 [x0, x1, x2, x3, x4] (va_rf (ρ a 4) :: st) σ ρ g τ Q := aw_gr m172 d172_53 rfl rfl rfl ht
theorem d172_56 : decode cX12_province 56 = .ok (.iconst 3, 1) := by decide +kernel
theorem s172_56 {d : Nat} {st : List Value} {σ : am_I} {ρ : am_R} {g : am_J} {τ : am_T} {Q : am_Q} {x0 x1 x2 x3 x4 : Value} : AW d 172 56 [x0, x1, x2, x3, x4] (st) σ ρ g τ Q = AW d 172 57 [x0, x1, x2, x3, x4] (.int 3 :: st) σ ρ g τ Q := aw_lc m172 d172_56 rfl rfl rfl
theorem d172_57 : decode cX12_province 57 = .ok (.iload_n 3, 1) := by decide +kernel
theorem s172_57 {d : Nat} {st : List Value} {σ : am_I} {ρ : am_R} {g : am_J} {τ : am_T} {Q : am_Q} {x0 x1 x2 x4 : Value} {v : Int32} : AW d 172 57 [x0, x1, x2, .int v, x4] (st) σ ρ g τ Q = AW d 172 58 [x0, x1, x2, .int v, x4] (.int v :: st) σ ρ g τ Q := aw_lc m172 d172_57 rfl rfl rfl
theorem d172_58 : decode cX12_province 58 = .ok (.imul, 1) := by decide +kernel
theorem s172_58 {d : Nat} {st : List Value} {σ : am_I} {ρ : am_R} {g : am_J} {τ : am_T} {Q : am_Q} {x0 x1 x2 x3 x4 : Value} {v w : Int32} : AW d 172 58 [x0, x1, x2, x3, x4] (.int w :: .int v :: st) σ ρ g τ Q = AW d 172 59 [x0, x1, x2, x3, x4] (.int (v * w) :: st) σ ρ g τ Q := aw_lc m172 d172_58 rfl rfl rfl
theorem d172_59 : decode cX12_province 59 = .ok (.iload 4, 2) := by decide +kernel
theorem s172_59 {d : Nat} {st : List Value} {σ : am_I} {ρ : am_R} {g : am_J} {τ : am_T} {Q : am_Q} {x0 x1 x2 x3 : Value} {v : Int32} : AW d 172 59 [x0, x1, x2, x3, .int v] (st) σ ρ g τ Q = AW d 172 61 [x0, x1, x2, x3, .int v] (.int v :: st) σ ρ g τ Q := aw_lc m172 d172_59 rfl rfl rfl
theorem d172_61 : decode cX12_province 61 = .ok (.iadd, 1) := by decide +kernel
theorem s172_61 {d : Nat} {st : List Value} {σ : am_I} {ρ : am_R} {g : am_J} {τ : am_T} {Q : am_Q} {x0 x1 x2 x3 x4 : Value} {v w : Int32} : AW d 172 61 [x0, x1, x2, x3, x4] (.int w :: .int v :: st) σ ρ g τ Q = AW d 172 62 [x0, x1, x2, x3, x4] (.int (v + w) :: st) σ ρ g τ Q := aw_lc m172 d172_61 rfl rfl rfl
theorem d172_62 : decode cX12_province 62 = .ok (.iconst 0, 1) := by decide +kernel
theorem s172_62 {d : Nat} {st : List Value} {σ : am_I} {ρ : am_R} {g : am_J} {τ : am_T} {Q : am_Q} {x0 x1 x2 x3 x4 : Value} : AW d 172 62 [x0, x1, x2, x3, x4] (st) σ ρ g τ Q = AW d 172 63 [x0, x1, x2, x3, x4] (.int 0 :: st) σ ρ g τ Q := aw_lc m172 d172_62 rfl rfl rfl
theorem d172_63 : decode cX12_province 63 = .ok (.iastore, 1) := by decide +kernel
theorem s172_63 {d : Nat} {st : List Value} {σ : am_I} {ρ : am_R} {g : am_J} {τ : am_T} {Q : am_Q} {x0 x1 x2 x3 x4 : Value} {a : Nat} {j v : Int32} (ht : τ.1 a = 15) (ha : a < am_BG) (hj : am_inb j (τ.2.1 a) = true) : AW d 172 63 [x0, x1, x2, x3, x4] (.int v :: .int j :: .ref a :: st) σ ρ g τ Q = AW d 172 64 [x0, x1, x2, x3, x4] (st) (am_u σ a j.toNatClampNeg v) ρ g τ Q := aw_ias m172 d172_63 rfl ht ha hj
theorem d172_64 : decode cX12_province 64 = .ok (.iinc 4 1, 3) := by decide +kernel
theorem s172_64 {d : Nat} {st : List Value} {σ : am_I} {ρ : am_R} {g : am_J} {τ : am_T} {Q : am_Q} {x0 x1 x2 : Value} {v : Int32} {u : Int32} : AW d 172 64 [x0, x1, x2, .int u, .int v] (st) σ ρ g τ Q = AW d 172 67 [x0, x1, x2, .int u, .int (v + 1)] (st) σ ρ g τ Q := aw_lc m172 d172_64 rfl rfl rfl
theorem d172_67 : decode cX12_province 67 = .ok (.goto (-21), 3) := by decide +kernel
theorem s172_67 {d : Nat} {st : List Value} {σ : am_I} {ρ : am_R} {g : am_J} {τ : am_T} {Q : am_Q} {x0 x1 x2 x3 x4 : Value} : AW d 172 67 [x0, x1, x2, x3, x4] (st) σ ρ g τ Q = AW d 172 46 [x0, x1, x2, x3, x4] (st) σ ρ g τ Q := aw_lc m172 d172_67 rfl rfl rfl
theorem d172_70 : decode cX12_province 70 = .ok (.aload_n 0, 1) := by decide +kernel
theorem s172_70 {d : Nat} {st : List Value} {σ : am_I} {ρ : am_R} {g : am_J} {τ : am_T} {Q : am_Q} {x1 x2 x3 x4 : Value} {v : Nat} : AW d 172 70 [.ref v, x1, x2, x3, x4] (st) σ ρ g τ Q = AW d 172 71 [.ref v, x1, x2, x3, x4] (.ref v :: st) σ ρ g τ Q := aw_lc m172 d172_70 rfl rfl rfl
theorem d172_71 : decode cX12_province 71 = .ok (.getfield 25, 3) := by decide +kernel
theorem s172_71 {d : Nat} {st : List Value} {σ : am_I} {ρ : am_R} {g : am_J} {τ : am_T} {Q : am_Q} {x0 x1 x2 x3 x4 : Value} {a : Nat} (ht : τ.1 a = 12) : AW d 172 71 [x0, x1, x2, x3, x4] (.ref a :: st) σ ρ g τ Q = AW d 172 74 [x0, x1, x2, x3, x4] (va_rf (ρ a 5) :: st) σ ρ g τ Q := aw_gr m172 d172_71 rfl rfl rfl ht
theorem d172_74 : decode cX12_province 74 = .ok (.iload_n 3, 1) := by decide +kernel
theorem s172_74 {d : Nat} {st : List Value} {σ : am_I} {ρ : am_R} {g : am_J} {τ : am_T} {Q : am_Q} {x0 x1 x2 x4 : Value} {v : Int32} : AW d 172 74 [x0, x1, x2, .int v, x4] (st) σ ρ g τ Q = AW d 172 75 [x0, x1, x2, .int v, x4] (.int v :: st) σ ρ g τ Q := aw_lc m172 d172_74 rfl rfl rfl
theorem d172_75 : decode cX12_province 75 = .ok (.iconst 0, 1) := by decide +kernel
theorem s172_75 {d : Nat} {st : List Value} {σ : am_I} {ρ : am_R} {g : am_J} {τ : am_T} {Q : am_Q} {x0 x1 x2 x3 x4 : Value} : AW d 172 75 [x0, x1, x2, x3, x4] (st) σ ρ g τ Q = AW d 172 76 [x0, x1, x2, x3, x4] (.int 0 :: st) σ ρ g τ Q := aw_lc m172 d172_75 rfl rfl rfl
theorem d172_76 : decode cX12_province 76 = .ok (.iastore, 1) := by decide +kernel
theorem s172_76 {d : Nat} {st : List Value} {σ : am_I} {ρ : am_R} {g : am_J} {τ : am_T} {Q : am_Q} {x0 x1 x2 x3 x4 : Value} {a : Nat} {j v : Int32} (ht : τ.1 a = 15) (ha : a < am_BG) (hj : am_inb j (τ.2.1 a) = true) : AW d 172 76 [x0, x1, x2, x3, x4] (.int v :: .int j :: .ref a :: st) σ ρ g τ Q = AW d 172 77 [x0, x1, x2, x3, x4] (st) (am_u σ a j.toNatClampNeg v) ρ g τ Q := aw_ias m172 d172_76 rfl ht ha hj
theorem d172_77 : decode cX12_province 77 = .ok (.aload_n 0, 1) := by decide +kernel
theorem s172_77 {d : Nat} {st : List Value} {σ : am_I} {ρ : am_R} {g : am_J} {τ : am_T} {Q : am_Q} {x1 x2 x3 x4 : Value} {v : Nat} : AW d 172 77 [.ref v, x1, x2, x3, x4] (st) σ ρ g τ Q = AW d 172 78 [.ref v, x1, x2, x3, x4] (.ref v :: st) σ ρ g τ Q := aw_lc m172 d172_77 rfl rfl rfl
theorem d172_78 : decode cX12_province 78 = .ok (.getfield 28, 3) := by decide +kernel
theorem s172_78 {d : Nat} {st : List Value} {σ : am_I} {ρ : am_R} {g : am_J} {τ : am_T} {Q : am_Q} {x0 x1 x2 x3 x4 : Value} {a : Nat} (ht : τ.1 a = 12) : AW d 172 78 [x0, x1, x2, x3, x4] (.ref a :: st) σ ρ g τ Q = AW d 172 81 [x0, x1, x2, x3, x4] (va_rf (ρ a 6) :: st) σ ρ g τ Q := aw_gr m172 d172_78 rfl rfl rfl ht
theorem d172_81 : decode cX12_province 81 = .ok (.iload_n 3, 1) := by decide +kernel
theorem s172_81 {d : Nat} {st : List Value} {σ : am_I} {ρ : am_R} {g : am_J} {τ : am_T} {Q : am_Q} {x0 x1 x2 x4 : Value} {v : Int32} : AW d 172 81 [x0, x1, x2, .int v, x4] (st) σ ρ g τ Q = AW d 172 82 [x0, x1, x2, .int v, x4] (.int v :: st) σ ρ g τ Q := aw_lc m172 d172_81 rfl rfl rfl
theorem d172_82 : decode cX12_province 82 = .ok (.iload_n 1, 1) := by decide +kernel
theorem s172_82 {d : Nat} {st : List Value} {σ : am_I} {ρ : am_R} {g : am_J} {τ : am_T} {Q : am_Q} {x0 x2 x3 x4 : Value} {v : Int32} : AW d 172 82 [x0, .int v, x2, x3, x4] (st) σ ρ g τ Q = AW d 172 83 [x0, .int v, x2, x3, x4] (.int v :: st) σ ρ g τ Q := aw_lc m172 d172_82 rfl rfl rfl
theorem d172_83 : decode cX12_province 83 = .ok (.iastore, 1) := by decide +kernel
theorem s172_83 {d : Nat} {st : List Value} {σ : am_I} {ρ : am_R} {g : am_J} {τ : am_T} {Q : am_Q} {x0 x1 x2 x3 x4 : Value} {a : Nat} {j v : Int32} (ht : τ.1 a = 15) (ha : a < am_BG) (hj : am_inb j (τ.2.1 a) = true) : AW d 172 83 [x0, x1, x2, x3, x4] (.int v :: .int j :: .ref a :: st) σ ρ g τ Q = AW d 172 84 [x0, x1, x2, x3, x4] (st) (am_u σ a j.toNatClampNeg v) ρ g τ Q := aw_ias m172 d172_83 rfl ht ha hj
theorem d172_84 : decode cX12_province 84 = .ok (.aload_n 0, 1) := by decide +kernel
theorem s172_84 {d : Nat} {st : List Value} {σ : am_I} {ρ : am_R} {g : am_J} {τ : am_T} {Q : am_Q} {x1 x2 x3 x4 : Value} {v : Nat} : AW d 172 84 [.ref v, x1, x2, x3, x4] (st) σ ρ g τ Q = AW d 172 85 [.ref v, x1, x2, x3, x4] (.ref v :: st) σ ρ g τ Q := aw_lc m172 d172_84 rfl rfl rfl
theorem d172_85 : decode cX12_province 85 = .ok (.getfield 31, 3) := by decide +kernel
theorem s172_85 {d : Nat} {st : List Value} {σ : am_I} {ρ : am_R} {g : am_J} {τ : am_T} {Q : am_Q} {x0 x1 x2 x3 x4 : Value} {a : Nat} (ht : τ.1 a = 12) : AW d 172 85 [x0, x1, x2, x3, x4] (.ref a :: st) σ ρ g τ Q = AW d 172 88 [x0, x1, x2, x3, x4] (va_rf (ρ a 7) :: st) σ ρ g τ Q := aw_gr m172 d172_85 rfl rfl rfl ht
theorem d172_88 : decode cX12_province 88 = .ok (.iload_n 3, 1) := by decide +kernel
theorem s172_88 {d : Nat} {st : List Value} {σ : am_I} {ρ : am_R} {g : am_J} {τ : am_T} {Q : am_Q} {x0 x1 x2 x4 : Value} {v : Int32} : AW d 172 88 [x0, x1, x2, .int v, x4] (st) σ ρ g τ Q = AW d 172 89 [x0, x1, x2, .int v, x4] (.int v :: st) σ ρ g τ Q := aw_lc m172 d172_88 rfl rfl rfl
theorem d172_89 : decode cX12_province 89 = .ok (.iload_n 2, 1) := by decide +kernel
theorem s172_89 {d : Nat} {st : List Value} {σ : am_I} {ρ : am_R} {g : am_J} {τ : am_T} {Q : am_Q} {x0 x1 x3 x4 : Value} {v : Int32} : AW d 172 89 [x0, x1, .int v, x3, x4] (st) σ ρ g τ Q = AW d 172 90 [x0, x1, .int v, x3, x4] (.int v :: st) σ ρ g τ Q := aw_lc m172 d172_89 rfl rfl rfl
theorem d172_90 : decode cX12_province 90 = .ok (.iastore, 1) := by decide +kernel
theorem s172_90 {d : Nat} {st : List Value} {σ : am_I} {ρ : am_R} {g : am_J} {τ : am_T} {Q : am_Q} {x0 x1 x2 x3 x4 : Value} {a : Nat} {j v : Int32} (ht : τ.1 a = 15) (ha : a < am_BG) (hj : am_inb j (τ.2.1 a) = true) : AW d 172 90 [x0, x1, x2, x3, x4] (.int v :: .int j :: .ref a :: st) σ ρ g τ Q = AW d 172 91 [x0, x1, x2, x3, x4] (st) (am_u σ a j.toNatClampNeg v) ρ g τ Q := aw_ias m172 d172_90 rfl ht ha hj
theorem d172_91 : decode cX12_province 91 = .ok (.aload_n 0, 1) := by decide +kernel
theorem s172_91 {d : Nat} {st : List Value} {σ : am_I} {ρ : am_R} {g : am_J} {τ : am_T} {Q : am_Q} {x1 x2 x3 x4 : Value} {v : Nat} : AW d 172 91 [.ref v, x1, x2, x3, x4] (st) σ ρ g τ Q = AW d 172 92 [.ref v, x1, x2, x3, x4] (.ref v :: st) σ ρ g τ Q := aw_lc m172 d172_91 rfl rfl rfl
theorem d172_92 : decode cX12_province 92 = .ok (.getfield 34, 3) := by decide +kernel
theorem s172_92 {d : Nat} {st : List Value} {σ : am_I} {ρ : am_R} {g : am_J} {τ : am_T} {Q : am_Q} {x0 x1 x2 x3 x4 : Value} {a : Nat} (ht : τ.1 a = 12) : AW d 172 92 [x0, x1, x2, x3, x4] (.ref a :: st) σ ρ g τ Q = AW d 172 95 [x0, x1, x2, x3, x4] (va_rf (ρ a 8) :: st) σ ρ g τ Q := aw_gr m172 d172_92 rfl rfl rfl ht
theorem d172_95 : decode cX12_province 95 = .ok (.iload_n 3, 1) := by decide +kernel
theorem s172_95 {d : Nat} {st : List Value} {σ : am_I} {ρ : am_R} {g : am_J} {τ : am_T} {Q : am_Q} {x0 x1 x2 x4 : Value} {v : Int32} : AW d 172 95 [x0, x1, x2, .int v, x4] (st) σ ρ g τ Q = AW d 172 96 [x0, x1, x2, .int v, x4] (.int v :: st) σ ρ g τ Q := aw_lc m172 d172_95 rfl rfl rfl
theorem d172_96 : decode cX12_province 96 = .ok (.iconst 0, 1) := by decide +kernel
theorem s172_96 {d : Nat} {st : List Value} {σ : am_I} {ρ : am_R} {g : am_J} {τ : am_T} {Q : am_Q} {x0 x1 x2 x3 x4 : Value} : AW d 172 96 [x0, x1, x2, x3, x4] (st) σ ρ g τ Q = AW d 172 97 [x0, x1, x2, x3, x4] (.int 0 :: st) σ ρ g τ Q := aw_lc m172 d172_96 rfl rfl rfl
theorem d172_97 : decode cX12_province 97 = .ok (.iastore, 1) := by decide +kernel
theorem s172_97 {d : Nat} {st : List Value} {σ : am_I} {ρ : am_R} {g : am_J} {τ : am_T} {Q : am_Q} {x0 x1 x2 x3 x4 : Value} {a : Nat} {j v : Int32} (ht : τ.1 a = 15) (ha : a < am_BG) (hj : am_inb j (τ.2.1 a) = true) : AW d 172 97 [x0, x1, x2, x3, x4] (.int v :: .int j :: .ref a :: st) σ ρ g τ Q = AW d 172 98 [x0, x1, x2, x3, x4] (st) (am_u σ a j.toNatClampNeg v) ρ g τ Q := aw_ias m172 d172_97 rfl ht ha hj
theorem d172_98 : decode cX12_province 98 = .ok (.aload_n 0, 1) := by decide +kernel
theorem s172_98 {d : Nat} {st : List Value} {σ : am_I} {ρ : am_R} {g : am_J} {τ : am_T} {Q : am_Q} {x1 x2 x3 x4 : Value} {v : Nat} : AW d 172 98 [.ref v, x1, x2, x3, x4] (st) σ ρ g τ Q = AW d 172 99 [.ref v, x1, x2, x3, x4] (.ref v :: st) σ ρ g τ Q := aw_lc m172 d172_98 rfl rfl rfl
theorem d172_99 : decode cX12_province 99 = .ok (.getfield 9, 3) := by decide +kernel
theorem s172_99 {d : Nat} {st : List Value} {σ : am_I} {ρ : am_R} {g : am_J} {τ : am_T} {Q : am_Q} {x0 x1 x2 x3 x4 : Value} {a : Nat} (ht : τ.1 a = 12) : AW d 172 99 [x0, x1, x2, x3, x4] (.ref a :: st) σ ρ g τ Q = AW d 172 102 [x0, x1, x2, x3, x4] (va_rf (ρ a 0) :: st) σ ρ g τ Q := aw_gr m172 d172_99 rfl rfl rfl ht
theorem d172_102 : decode cX12_province 102 = .ok (.iconst 1, 1) := by decide +kernel
theorem s172_102 {d : Nat} {st : List Value} {σ : am_I} {ρ : am_R} {g : am_J} {τ : am_T} {Q : am_Q} {x0 x1 x2 x3 x4 : Value} : AW d 172 102 [x0, x1, x2, x3, x4] (st) σ ρ g τ Q = AW d 172 103 [x0, x1, x2, x3, x4] (.int 1 :: st) σ ρ g τ Q := aw_lc m172 d172_102 rfl rfl rfl
theorem d172_103 : decode cX12_province 103 = .ok (.dup2, 1) := by decide +kernel
theorem s172_103 {d : Nat} {st : List Value} {σ : am_I} {ρ : am_R} {g : am_J} {τ : am_T} {Q : am_Q} {x0 x1 x2 x3 x4 : Value} {v : Int32} {w : Nat} : AW d 172 103 [x0, x1, x2, x3, x4] (.int v :: .ref w :: st) σ ρ g τ Q = AW d 172 104 [x0, x1, x2, x3, x4] (.int v :: .ref w :: .int v :: .ref w :: st) σ ρ g τ Q := aw_lc m172 d172_103 rfl rfl rfl
theorem d172_104 : decode cX12_province 104 = .ok (.iaload, 1) := by decide +kernel
theorem s172_104 {d : Nat} {st : List Value} {σ : am_I} {ρ : am_R} {g : am_J} {τ : am_T} {Q : am_Q} {x0 x1 x2 x3 x4 : Value} {a : Nat} {j : Int32} (ht : τ.1 a = 15) (hj : am_inb j (τ.2.1 a) = true) : AW d 172 104 [x0, x1, x2, x3, x4] (.int j :: .ref a :: st) σ ρ g τ Q = AW d 172 105 [x0, x1, x2, x3, x4] (.int (σ a j.toNatClampNeg) :: st) σ ρ g τ Q := aw_ial m172 d172_104 rfl ht hj
theorem d172_105 : decode cX12_province 105 = .ok (.iconst 1, 1) := by decide +kernel
theorem s172_105 {d : Nat} {st : List Value} {σ : am_I} {ρ : am_R} {g : am_J} {τ : am_T} {Q : am_Q} {x0 x1 x2 x3 x4 : Value} : AW d 172 105 [x0, x1, x2, x3, x4] (st) σ ρ g τ Q = AW d 172 106 [x0, x1, x2, x3, x4] (.int 1 :: st) σ ρ g τ Q := aw_lc m172 d172_105 rfl rfl rfl
theorem d172_106 : decode cX12_province 106 = .ok (.iadd, 1) := by decide +kernel
theorem s172_106 {d : Nat} {st : List Value} {σ : am_I} {ρ : am_R} {g : am_J} {τ : am_T} {Q : am_Q} {x0 x1 x2 x3 x4 : Value} {v w : Int32} : AW d 172 106 [x0, x1, x2, x3, x4] (.int w :: .int v :: st) σ ρ g τ Q = AW d 172 107 [x0, x1, x2, x3, x4] (.int (v + w) :: st) σ ρ g τ Q := aw_lc m172 d172_106 rfl rfl rfl
theorem d172_107 : decode cX12_province 107 = .ok (.iastore, 1) := by decide +kernel
theorem s172_107 {d : Nat} {st : List Value} {σ : am_I} {ρ : am_R} {g : am_J} {τ : am_T} {Q : am_Q} {x0 x1 x2 x3 x4 : Value} {a : Nat} {j v : Int32} (ht : τ.1 a = 15) (ha : a < am_BG) (hj : am_inb j (τ.2.1 a) = true) : AW d 172 107 [x0, x1, x2, x3, x4] (.int v :: .int j :: .ref a :: st) σ ρ g τ Q = AW d 172 108 [x0, x1, x2, x3, x4] (st) (am_u σ a j.toNatClampNeg v) ρ g τ Q := aw_ias m172 d172_107 rfl ht ha hj
theorem d172_108 : decode cX12_province 108 = .ok (.iload_n 3, 1) := by decide +kernel
theorem s172_108 {d : Nat} {st : List Value} {σ : am_I} {ρ : am_R} {g : am_J} {τ : am_T} {Q : am_Q} {x0 x1 x2 x4 : Value} {v : Int32} : AW d 172 108 [x0, x1, x2, .int v, x4] (st) σ ρ g τ Q = AW d 172 109 [x0, x1, x2, .int v, x4] (.int v :: st) σ ρ g τ Q := aw_lc m172 d172_108 rfl rfl rfl
theorem d172_109 : decode cX12_province 109 = .ok (.ireturn, 1) := by decide +kernel
theorem s172_109 {d : Nat} {σ : am_I} {ρ : am_R} {g : am_J} {τ : am_T} {Q : am_Q} {x0 x1 x2 x3 x4 : Value} {v : Int32} : AW d 172 109 [x0, x1, x2, x3, x4] ([.int v]) σ ρ g τ Q = Q (some (.int v)) σ ρ g τ := aw_ri m172 d172_109 rfl
theorem d173_0 : decode cX12_yield1 0 = .ok (.aload_n 0, 1) := by decide +kernel
theorem s173_0 {d : Nat} {st : List Value} {σ : am_I} {ρ : am_R} {g : am_J} {τ : am_T} {Q : am_Q} {x1 x2 x3 x4 : Value} {v : Nat} : AW d 173 0 [.ref v, x1, x2, x3, x4] (st) σ ρ g τ Q = AW d 173 1 [.ref v, x1, x2, x3, x4] (.ref v :: st) σ ρ g τ Q := aw_lc m173 d173_0 rfl rfl rfl
theorem d173_1 : decode cX12_yield1 1 = .ok (.iconst 1, 1) := by decide +kernel
theorem s173_1 {d : Nat} {st : List Value} {σ : am_I} {ρ : am_R} {g : am_J} {τ : am_T} {Q : am_Q} {x0 x1 x2 x3 x4 : Value} : AW d 173 1 [x0, x1, x2, x3, x4] (st) σ ρ g τ Q = AW d 173 2 [x0, x1, x2, x3, x4] (.int 1 :: st) σ ρ g τ Q := aw_lc m173 d173_1 rfl rfl rfl
theorem d173_2 : decode cX12_yield1 2 = .ok (.iload_n 1, 1) := by decide +kernel
theorem s173_2 {d : Nat} {st : List Value} {σ : am_I} {ρ : am_R} {g : am_J} {τ : am_T} {Q : am_Q} {x0 x2 x3 x4 : Value} {v : Int32} : AW d 173 2 [x0, .int v, x2, x3, x4] (st) σ ρ g τ Q = AW d 173 3 [x0, .int v, x2, x3, x4] (.int v :: st) σ ρ g τ Q := aw_lc m173 d173_2 rfl rfl rfl
theorem d173_3 : decode cX12_yield1 3 = .ok (.invokevirtual 210, 3) := by decide +kernel
theorem s173_3 {d : Nat} {st : List Value} {σ : am_I} {ρ : am_R} {g : am_J} {τ : am_T} {Q : am_Q} {x0 x1 x2 x3 x4 : Value} {p0 : Nat} {p1 : Int32} {p2 : Int32} (ht : τ.1 p0 = 12) (hs : st.length ≤ 4) : AW (d + 1) 173 3 [x0, x1, x2, x3, x4] (.int p2 :: .int p1 :: .ref p0 :: st) σ ρ g τ Q = AW d 167 0 [.ref p0, .int p1, .int p2] [] σ ρ g τ (fun r9 σ ρ g τ => AW (d + 1) 173 6 [x0, x1, x2, x3, x4] (r9.toList ++ st) σ ρ g τ Q) := aw_cv m173 d173_3 rfl m167 rfl rfl (by decide) en167 ok167 rfl ht hs
theorem d173_6 : decode cX12_yield1 6 = .ok (.ifCond .eq 23, 3) := by decide +kernel
theorem s173_6 {d : Nat} {st : List Value} {σ : am_I} {ρ : am_R} {g : am_J} {τ : am_T} {Q : am_Q} {x0 x1 x2 x3 x4 : Value} {v : Int32} : AW d 173 6 [x0, x1, x2, x3, x4] (.int v :: st) σ ρ g τ Q = if v = 0 then AW d 173 29 [x0, x1, x2, x3, x4] (st) σ ρ g τ Q else AW d 173 9 [x0, x1, x2, x3, x4] (st) σ ρ g τ Q := aw_br m173 d173_6 rfl rfl rfl
theorem d173_9 : decode cX12_yield1 9 = .ok (.iload_n 2, 1) := by decide +kernel
theorem s173_9 {d : Nat} {st : List Value} {σ : am_I} {ρ : am_R} {g : am_J} {τ : am_T} {Q : am_Q} {x0 x1 x3 x4 : Value} {v : Int32} : AW d 173 9 [x0, x1, .int v, x3, x4] (st) σ ρ g τ Q = AW d 173 10 [x0, x1, .int v, x3, x4] (.int v :: st) σ ρ g τ Q := aw_lc m173 d173_9 rfl rfl rfl
theorem d173_10 : decode cX12_yield1 10 = .ok (.iconst 0, 1) := by decide +kernel
theorem s173_10 {d : Nat} {st : List Value} {σ : am_I} {ρ : am_R} {g : am_J} {τ : am_T} {Q : am_Q} {x0 x1 x2 x3 x4 : Value} : AW d 173 10 [x0, x1, x2, x3, x4] (st) σ ρ g τ Q = AW d 173 11 [x0, x1, x2, x3, x4] (.int 0 :: st) σ ρ g τ Q := aw_lc m173 d173_10 rfl rfl rfl
theorem d173_11 : decode cX12_yield1 11 = .ok (.iconst 2, 1) := by decide +kernel
theorem s173_11 {d : Nat} {st : List Value} {σ : am_I} {ρ : am_R} {g : am_J} {τ : am_T} {Q : am_Q} {x0 x1 x2 x3 x4 : Value} : AW d 173 11 [x0, x1, x2, x3, x4] (st) σ ρ g τ Q = AW d 173 12 [x0, x1, x2, x3, x4] (.int 2 :: st) σ ρ g τ Q := aw_lc m173 d173_11 rfl rfl rfl
theorem d173_12 : decode cX12_yield1 12 = .ok (.invokestatic 194, 3) := by decide +kernel
theorem s173_12 {d : Nat} {st : List Value} {σ : am_I} {ρ : am_R} {g : am_J} {τ : am_T} {Q : am_Q} {x0 x1 x2 x3 x4 : Value} {p0 : Int32} {p1 : Int32} {p2 : Int32} (hs : st.length ≤ 4) : AW (d + 1) 173 12 [x0, x1, x2, x3, x4] (.int p2 :: .int p1 :: .int p0 :: st) σ ρ g τ Q = AW d 165 0 [.int p0, .int p1, .int p2] [] σ ρ g τ (fun r9 σ ρ g τ => AW (d + 1) 173 15 [x0, x1, x2, x3, x4] (r9.toList ++ st) σ ρ g τ Q) := aw_cs m173 d173_12 rfl (by simp only [List.length_cons]; omega) rfl rfl en165 ok165 rfl hs
theorem d173_15 : decode cX12_yield1 15 = .ok (.ifCond .eq 14, 3) := by decide +kernel
theorem s173_15 {d : Nat} {st : List Value} {σ : am_I} {ρ : am_R} {g : am_J} {τ : am_T} {Q : am_Q} {x0 x1 x2 x3 x4 : Value} {v : Int32} : AW d 173 15 [x0, x1, x2, x3, x4] (.int v :: st) σ ρ g τ Q = if v = 0 then AW d 173 29 [x0, x1, x2, x3, x4] (st) σ ρ g τ Q else AW d 173 18 [x0, x1, x2, x3, x4] (st) σ ρ g τ Q := aw_br m173 d173_15 rfl rfl rfl
theorem d173_18 : decode cX12_yield1 18 = .ok (.iload_n 3, 1) := by decide +kernel
theorem s173_18 {d : Nat} {st : List Value} {σ : am_I} {ρ : am_R} {g : am_J} {τ : am_T} {Q : am_Q} {x0 x1 x2 x4 : Value} {v : Int32} : AW d 173 18 [x0, x1, x2, .int v, x4] (st) σ ρ g τ Q = AW d 173 19 [x0, x1, x2, .int v, x4] (.int v :: st) σ ρ g τ Q := aw_lc m173 d173_18 rfl rfl rfl
theorem d173_19 : decode cX12_yield1 19 = .ok (.iconst 0, 1) := by decide +kernel
theorem s173_19 {d : Nat} {st : List Value} {σ : am_I} {ρ : am_R} {g : am_J} {τ : am_T} {Q : am_Q} {x0 x1 x2 x3 x4 : Value} : AW d 173 19 [x0, x1, x2, x3, x4] (st) σ ρ g τ Q = AW d 173 20 [x0, x1, x2, x3, x4] (.int 0 :: st) σ ρ g τ Q := aw_lc m173 d173_19 rfl rfl rfl
theorem d173_20 : decode cX12_yield1 20 = .ok (.sipush 999, 3) := by decide +kernel
theorem s173_20 {d : Nat} {st : List Value} {σ : am_I} {ρ : am_R} {g : am_J} {τ : am_T} {Q : am_Q} {x0 x1 x2 x3 x4 : Value} : AW d 173 20 [x0, x1, x2, x3, x4] (st) σ ρ g τ Q = AW d 173 23 [x0, x1, x2, x3, x4] (.int 999 :: st) σ ρ g τ Q := aw_lc m173 d173_20 rfl rfl rfl
theorem d173_23 : decode cX12_yield1 23 = .ok (.invokestatic 194, 3) := by decide +kernel
theorem s173_23 {d : Nat} {st : List Value} {σ : am_I} {ρ : am_R} {g : am_J} {τ : am_T} {Q : am_Q} {x0 x1 x2 x3 x4 : Value} {p0 : Int32} {p1 : Int32} {p2 : Int32} (hs : st.length ≤ 4) : AW (d + 1) 173 23 [x0, x1, x2, x3, x4] (.int p2 :: .int p1 :: .int p0 :: st) σ ρ g τ Q = AW d 165 0 [.int p0, .int p1, .int p2] [] σ ρ g τ (fun r9 σ ρ g τ => AW (d + 1) 173 26 [x0, x1, x2, x3, x4] (r9.toList ++ st) σ ρ g τ Q) := aw_cs m173 d173_23 rfl (by simp only [List.length_cons]; omega) rfl rfl en165 ok165 rfl hs
theorem d173_26 : decode cX12_yield1 26 = .ok (.ifCond .ne 5, 3) := by decide +kernel
theorem s173_26 {d : Nat} {st : List Value} {σ : am_I} {ρ : am_R} {g : am_J} {τ : am_T} {Q : am_Q} {x0 x1 x2 x3 x4 : Value} {v : Int32} : AW d 173 26 [x0, x1, x2, x3, x4] (.int v :: st) σ ρ g τ Q = if ¬ v = 0 then AW d 173 31 [x0, x1, x2, x3, x4] (st) σ ρ g τ Q else AW d 173 29 [x0, x1, x2, x3, x4] (st) σ ρ g τ Q := aw_br m173 d173_26 rfl rfl rfl
theorem d173_29 : decode cX12_yield1 29 = .ok (.iconst (-1), 1) := by decide +kernel
theorem s173_29 {d : Nat} {st : List Value} {σ : am_I} {ρ : am_R} {g : am_J} {τ : am_T} {Q : am_Q} {x0 x1 x2 x3 x4 : Value} : AW d 173 29 [x0, x1, x2, x3, x4] (st) σ ρ g τ Q = AW d 173 30 [x0, x1, x2, x3, x4] (.int (-1) :: st) σ ρ g τ Q := aw_lc m173 d173_29 rfl rfl rfl
theorem d173_30 : decode cX12_yield1 30 = .ok (.ireturn, 1) := by decide +kernel
theorem s173_30 {d : Nat} {σ : am_I} {ρ : am_R} {g : am_J} {τ : am_T} {Q : am_Q} {x0 x1 x2 x3 x4 : Value} {v : Int32} : AW d 173 30 [x0, x1, x2, x3, x4] ([.int v]) σ ρ g τ Q = Q (some (.int v)) σ ρ g τ := aw_ri m173 d173_30 rfl
theorem d173_31 : decode cX12_yield1 31 = .ok (.aload_n 0, 1) := by decide +kernel
theorem s173_31 {d : Nat} {st : List Value} {σ : am_I} {ρ : am_R} {g : am_J} {τ : am_T} {Q : am_Q} {x1 x2 x3 x4 : Value} {v : Nat} : AW d 173 31 [.ref v, x1, x2, x3, x4] (st) σ ρ g τ Q = AW d 173 32 [.ref v, x1, x2, x3, x4] (.ref v :: st) σ ρ g τ Q := aw_lc m173 d173_31 rfl rfl rfl
theorem d173_32 : decode cX12_yield1 32 = .ok (.getfield 22, 3) := by decide +kernel
theorem s173_32 {d : Nat} {st : List Value} {σ : am_I} {ρ : am_R} {g : am_J} {τ : am_T} {Q : am_Q} {x0 x1 x2 x3 x4 : Value} {a : Nat} (ht : τ.1 a = 12) : AW d 173 32 [x0, x1, x2, x3, x4] (.ref a :: st) σ ρ g τ Q = AW d 173 35 [x0, x1, x2, x3, x4] (va_rf (ρ a 4) :: st) σ ρ g τ Q := aw_gr m173 d173_32 rfl rfl rfl ht
theorem d173_35 : decode cX12_yield1 35 = .ok (.iconst 3, 1) := by decide +kernel
theorem s173_35 {d : Nat} {st : List Value} {σ : am_I} {ρ : am_R} {g : am_J} {τ : am_T} {Q : am_Q} {x0 x1 x2 x3 x4 : Value} : AW d 173 35 [x0, x1, x2, x3, x4] (st) σ ρ g τ Q = AW d 173 36 [x0, x1, x2, x3, x4] (.int 3 :: st) σ ρ g τ Q := aw_lc m173 d173_35 rfl rfl rfl
theorem d173_36 : decode cX12_yield1 36 = .ok (.iload_n 1, 1) := by decide +kernel
theorem s173_36 {d : Nat} {st : List Value} {σ : am_I} {ρ : am_R} {g : am_J} {τ : am_T} {Q : am_Q} {x0 x2 x3 x4 : Value} {v : Int32} : AW d 173 36 [x0, .int v, x2, x3, x4] (st) σ ρ g τ Q = AW d 173 37 [x0, .int v, x2, x3, x4] (.int v :: st) σ ρ g τ Q := aw_lc m173 d173_36 rfl rfl rfl
theorem d173_37 : decode cX12_yield1 37 = .ok (.imul, 1) := by decide +kernel
theorem s173_37 {d : Nat} {st : List Value} {σ : am_I} {ρ : am_R} {g : am_J} {τ : am_T} {Q : am_Q} {x0 x1 x2 x3 x4 : Value} {v w : Int32} : AW d 173 37 [x0, x1, x2, x3, x4] (.int w :: .int v :: st) σ ρ g τ Q = AW d 173 38 [x0, x1, x2, x3, x4] (.int (v * w) :: st) σ ρ g τ Q := aw_lc m173 d173_37 rfl rfl rfl
theorem d173_38 : decode cX12_yield1 38 = .ok (.iload_n 2, 1) := by decide +kernel
theorem s173_38 {d : Nat} {st : List Value} {σ : am_I} {ρ : am_R} {g : am_J} {τ : am_T} {Q : am_Q} {x0 x1 x3 x4 : Value} {v : Int32} : AW d 173 38 [x0, x1, .int v, x3, x4] (st) σ ρ g τ Q = AW d 173 39 [x0, x1, .int v, x3, x4] (.int v :: st) σ ρ g τ Q := aw_lc m173 d173_38 rfl rfl rfl
theorem d173_39 : decode cX12_yield1 39 = .ok (.iadd, 1) := by decide +kernel
theorem s173_39 {d : Nat} {st : List Value} {σ : am_I} {ρ : am_R} {g : am_J} {τ : am_T} {Q : am_Q} {x0 x1 x2 x3 x4 : Value} {v w : Int32} : AW d 173 39 [x0, x1, x2, x3, x4] (.int w :: .int v :: st) σ ρ g τ Q = AW d 173 40 [x0, x1, x2, x3, x4] (.int (v + w) :: st) σ ρ g τ Q := aw_lc m173 d173_39 rfl rfl rfl
theorem d173_40 : decode cX12_yield1 40 = .ok (.iaload, 1) := by decide +kernel
theorem s173_40 {d : Nat} {st : List Value} {σ : am_I} {ρ : am_R} {g : am_J} {τ : am_T} {Q : am_Q} {x0 x1 x2 x3 x4 : Value} {a : Nat} {j : Int32} (ht : τ.1 a = 15) (hj : am_inb j (τ.2.1 a) = true) : AW d 173 40 [x0, x1, x2, x3, x4] (.int j :: .ref a :: st) σ ρ g τ Q = AW d 173 41 [x0, x1, x2, x3, x4] (.int (σ a j.toNatClampNeg) :: st) σ ρ g τ Q := aw_ial m173 d173_40 rfl ht hj
theorem d173_41 : decode cX12_yield1 41 = .ok (.istore 4, 2) := by decide +kernel
theorem s173_41 {d : Nat} {st : List Value} {σ : am_I} {ρ : am_R} {g : am_J} {τ : am_T} {Q : am_Q} {x0 x1 x2 x4 : Value} {v : Int32} {u : Int32} : AW d 173 41 [x0, x1, x2, .int u, x4] (.int v :: st) σ ρ g τ Q = AW d 173 43 [x0, x1, x2, .int u, .int v] (st) σ ρ g τ Q := aw_lc m173 d173_41 rfl rfl rfl
theorem d173_43 : decode cX12_yield1 43 = .ok (.aload_n 0, 1) := by decide +kernel
theorem s173_43 {d : Nat} {st : List Value} {σ : am_I} {ρ : am_R} {g : am_J} {τ : am_T} {Q : am_Q} {x1 x2 x3 x4 : Value} {v : Nat} : AW d 173 43 [.ref v, x1, x2, x3, x4] (st) σ ρ g τ Q = AW d 173 44 [.ref v, x1, x2, x3, x4] (.ref v :: st) σ ρ g τ Q := aw_lc m173 d173_43 rfl rfl rfl
theorem d173_44 : decode cX12_yield1 44 = .ok (.getfield 22, 3) := by decide +kernel
theorem s173_44 {d : Nat} {st : List Value} {σ : am_I} {ρ : am_R} {g : am_J} {τ : am_T} {Q : am_Q} {x0 x1 x2 x3 x4 : Value} {a : Nat} (ht : τ.1 a = 12) : AW d 173 44 [x0, x1, x2, x3, x4] (.ref a :: st) σ ρ g τ Q = AW d 173 47 [x0, x1, x2, x3, x4] (va_rf (ρ a 4) :: st) σ ρ g τ Q := aw_gr m173 d173_44 rfl rfl rfl ht
theorem d173_47 : decode cX12_yield1 47 = .ok (.iconst 3, 1) := by decide +kernel
theorem s173_47 {d : Nat} {st : List Value} {σ : am_I} {ρ : am_R} {g : am_J} {τ : am_T} {Q : am_Q} {x0 x1 x2 x3 x4 : Value} : AW d 173 47 [x0, x1, x2, x3, x4] (st) σ ρ g τ Q = AW d 173 48 [x0, x1, x2, x3, x4] (.int 3 :: st) σ ρ g τ Q := aw_lc m173 d173_47 rfl rfl rfl
theorem d173_48 : decode cX12_yield1 48 = .ok (.iload_n 1, 1) := by decide +kernel
theorem s173_48 {d : Nat} {st : List Value} {σ : am_I} {ρ : am_R} {g : am_J} {τ : am_T} {Q : am_Q} {x0 x2 x3 x4 : Value} {v : Int32} : AW d 173 48 [x0, .int v, x2, x3, x4] (st) σ ρ g τ Q = AW d 173 49 [x0, .int v, x2, x3, x4] (.int v :: st) σ ρ g τ Q := aw_lc m173 d173_48 rfl rfl rfl
theorem d173_49 : decode cX12_yield1 49 = .ok (.imul, 1) := by decide +kernel
theorem s173_49 {d : Nat} {st : List Value} {σ : am_I} {ρ : am_R} {g : am_J} {τ : am_T} {Q : am_Q} {x0 x1 x2 x3 x4 : Value} {v w : Int32} : AW d 173 49 [x0, x1, x2, x3, x4] (.int w :: .int v :: st) σ ρ g τ Q = AW d 173 50 [x0, x1, x2, x3, x4] (.int (v * w) :: st) σ ρ g τ Q := aw_lc m173 d173_49 rfl rfl rfl
theorem d173_50 : decode cX12_yield1 50 = .ok (.iload_n 2, 1) := by decide +kernel
theorem s173_50 {d : Nat} {st : List Value} {σ : am_I} {ρ : am_R} {g : am_J} {τ : am_T} {Q : am_Q} {x0 x1 x3 x4 : Value} {v : Int32} : AW d 173 50 [x0, x1, .int v, x3, x4] (st) σ ρ g τ Q = AW d 173 51 [x0, x1, .int v, x3, x4] (.int v :: st) σ ρ g τ Q := aw_lc m173 d173_50 rfl rfl rfl
theorem d173_51 : decode cX12_yield1 51 = .ok (.iadd, 1) := by decide +kernel
theorem s173_51 {d : Nat} {st : List Value} {σ : am_I} {ρ : am_R} {g : am_J} {τ : am_T} {Q : am_Q} {x0 x1 x2 x3 x4 : Value} {v w : Int32} : AW d 173 51 [x0, x1, x2, x3, x4] (.int w :: .int v :: st) σ ρ g τ Q = AW d 173 52 [x0, x1, x2, x3, x4] (.int (v + w) :: st) σ ρ g τ Q := aw_lc m173 d173_51 rfl rfl rfl
theorem d173_52 : decode cX12_yield1 52 = .ok (.iload_n 3, 1) := by decide +kernel
theorem s173_52 {d : Nat} {st : List Value} {σ : am_I} {ρ : am_R} {g : am_J} {τ : am_T} {Q : am_Q} {x0 x1 x2 x4 : Value} {v : Int32} : AW d 173 52 [x0, x1, x2, .int v, x4] (st) σ ρ g τ Q = AW d 173 53 [x0, x1, x2, .int v, x4] (.int v :: st) σ ρ g τ Q := aw_lc m173 d173_52 rfl rfl rfl
theorem d173_53 : decode cX12_yield1 53 = .ok (.iastore, 1) := by decide +kernel
theorem s173_53 {d : Nat} {st : List Value} {σ : am_I} {ρ : am_R} {g : am_J} {τ : am_T} {Q : am_Q} {x0 x1 x2 x3 x4 : Value} {a : Nat} {j v : Int32} (ht : τ.1 a = 15) (ha : a < am_BG) (hj : am_inb j (τ.2.1 a) = true) : AW d 173 53 [x0, x1, x2, x3, x4] (.int v :: .int j :: .ref a :: st) σ ρ g τ Q = AW d 173 54 [x0, x1, x2, x3, x4] (st) (am_u σ a j.toNatClampNeg v) ρ g τ Q := aw_ias m173 d173_53 rfl ht ha hj
theorem d173_54 : decode cX12_yield1 54 = .ok (.iload 4, 2) := by decide +kernel
theorem s173_54 {d : Nat} {st : List Value} {σ : am_I} {ρ : am_R} {g : am_J} {τ : am_T} {Q : am_Q} {x0 x1 x2 x3 : Value} {v : Int32} : AW d 173 54 [x0, x1, x2, x3, .int v] (st) σ ρ g τ Q = AW d 173 56 [x0, x1, x2, x3, .int v] (.int v :: st) σ ρ g τ Q := aw_lc m173 d173_54 rfl rfl rfl
theorem d173_56 : decode cX12_yield1 56 = .ok (.ireturn, 1) := by decide +kernel
theorem s173_56 {d : Nat} {σ : am_I} {ρ : am_R} {g : am_J} {τ : am_T} {Q : am_Q} {x0 x1 x2 x3 x4 : Value} {v : Int32} : AW d 173 56 [x0, x1, x2, x3, x4] ([.int v]) σ ρ g τ Q = Q (some (.int v)) σ ρ g τ := aw_ri m173 d173_56 rfl
theorem d174_0 : decode cX12_yields 0 = .ok (.aload_n 0, 1) := by decide +kernel
theorem s174_0 {d : Nat} {st : List Value} {σ : am_I} {ρ : am_R} {g : am_J} {τ : am_T} {Q : am_Q} {x1 x2 x3 x4 x5 x6 : Value} {v : Nat} : AW d 174 0 [.ref v, x1, x2, x3, x4, x5, x6] (st) σ ρ g τ Q = AW d 174 1 [.ref v, x1, x2, x3, x4, x5, x6] (.ref v :: st) σ ρ g τ Q := aw_lc m174 d174_0 rfl rfl rfl
theorem d174_1 : decode cX12_yields 1 = .ok (.iconst 1, 1) := by decide +kernel
theorem s174_1 {d : Nat} {st : List Value} {σ : am_I} {ρ : am_R} {g : am_J} {τ : am_T} {Q : am_Q} {x0 x1 x2 x3 x4 x5 x6 : Value} : AW d 174 1 [x0, x1, x2, x3, x4, x5, x6] (st) σ ρ g τ Q = AW d 174 2 [x0, x1, x2, x3, x4, x5, x6] (.int 1 :: st) σ ρ g τ Q := aw_lc m174 d174_1 rfl rfl rfl
theorem d174_2 : decode cX12_yields 2 = .ok (.iload_n 1, 1) := by decide +kernel
theorem s174_2 {d : Nat} {st : List Value} {σ : am_I} {ρ : am_R} {g : am_J} {τ : am_T} {Q : am_Q} {x0 x2 x3 x4 x5 x6 : Value} {v : Int32} : AW d 174 2 [x0, .int v, x2, x3, x4, x5, x6] (st) σ ρ g τ Q = AW d 174 3 [x0, .int v, x2, x3, x4, x5, x6] (.int v :: st) σ ρ g τ Q := aw_lc m174 d174_2 rfl rfl rfl
theorem d174_3 : decode cX12_yields 3 = .ok (.invokevirtual 210, 3) := by decide +kernel
theorem s174_3 {d : Nat} {st : List Value} {σ : am_I} {ρ : am_R} {g : am_J} {τ : am_T} {Q : am_Q} {x0 x1 x2 x3 x4 x5 x6 : Value} {p0 : Nat} {p1 : Int32} {p2 : Int32} (ht : τ.1 p0 = 12) (hs : st.length ≤ 4) : AW (d + 1) 174 3 [x0, x1, x2, x3, x4, x5, x6] (.int p2 :: .int p1 :: .ref p0 :: st) σ ρ g τ Q = AW d 167 0 [.ref p0, .int p1, .int p2] [] σ ρ g τ (fun r9 σ ρ g τ => AW (d + 1) 174 6 [x0, x1, x2, x3, x4, x5, x6] (r9.toList ++ st) σ ρ g τ Q) := aw_cv m174 d174_3 rfl m167 rfl rfl (by decide) en167 ok167 rfl ht hs
theorem d174_6 : decode cX12_yields 6 = .ok (.ifCond .eq 12, 3) := by decide +kernel
theorem s174_6 {d : Nat} {st : List Value} {σ : am_I} {ρ : am_R} {g : am_J} {τ : am_T} {Q : am_Q} {x0 x1 x2 x3 x4 x5 x6 : Value} {v : Int32} : AW d 174 6 [x0, x1, x2, x3, x4, x5, x6] (.int v :: st) σ ρ g τ Q = if v = 0 then AW d 174 18 [x0, x1, x2, x3, x4, x5, x6] (st) σ ρ g τ Q else AW d 174 9 [x0, x1, x2, x3, x4, x5, x6] (st) σ ρ g τ Q := aw_br m174 d174_6 rfl rfl rfl
theorem d174_9 : decode cX12_yields 9 = .ok (.iload_n 2, 1) := by decide +kernel
theorem s174_9 {d : Nat} {st : List Value} {σ : am_I} {ρ : am_R} {g : am_J} {τ : am_T} {Q : am_Q} {x0 x1 x3 x4 x5 x6 : Value} {v : Int32} : AW d 174 9 [x0, x1, .int v, x3, x4, x5, x6] (st) σ ρ g τ Q = AW d 174 10 [x0, x1, .int v, x3, x4, x5, x6] (.int v :: st) σ ρ g τ Q := aw_lc m174 d174_9 rfl rfl rfl
theorem d174_10 : decode cX12_yields 10 = .ok (.iconst 0, 1) := by decide +kernel
theorem s174_10 {d : Nat} {st : List Value} {σ : am_I} {ρ : am_R} {g : am_J} {τ : am_T} {Q : am_Q} {x0 x1 x2 x3 x4 x5 x6 : Value} : AW d 174 10 [x0, x1, x2, x3, x4, x5, x6] (st) σ ρ g τ Q = AW d 174 11 [x0, x1, x2, x3, x4, x5, x6] (.int 0 :: st) σ ρ g τ Q := aw_lc m174 d174_10 rfl rfl rfl
theorem d174_11 : decode cX12_yields 11 = .ok (.iconst 3, 1) := by decide +kernel
theorem s174_11 {d : Nat} {st : List Value} {σ : am_I} {ρ : am_R} {g : am_J} {τ : am_T} {Q : am_Q} {x0 x1 x2 x3 x4 x5 x6 : Value} : AW d 174 11 [x0, x1, x2, x3, x4, x5, x6] (st) σ ρ g τ Q = AW d 174 12 [x0, x1, x2, x3, x4, x5, x6] (.int 3 :: st) σ ρ g τ Q := aw_lc m174 d174_11 rfl rfl rfl
theorem d174_12 : decode cX12_yields 12 = .ok (.invokestatic 194, 3) := by decide +kernel
theorem s174_12 {d : Nat} {st : List Value} {σ : am_I} {ρ : am_R} {g : am_J} {τ : am_T} {Q : am_Q} {x0 x1 x2 x3 x4 x5 x6 : Value} {p0 : Int32} {p1 : Int32} {p2 : Int32} (hs : st.length ≤ 4) : AW (d + 1) 174 12 [x0, x1, x2, x3, x4, x5, x6] (.int p2 :: .int p1 :: .int p0 :: st) σ ρ g τ Q = AW d 165 0 [.int p0, .int p1, .int p2] [] σ ρ g τ (fun r9 σ ρ g τ => AW (d + 1) 174 15 [x0, x1, x2, x3, x4, x5, x6] (r9.toList ++ st) σ ρ g τ Q) := aw_cs m174 d174_12 rfl (by simp only [List.length_cons]; omega) rfl rfl en165 ok165 rfl hs
theorem d174_15 : decode cX12_yields 15 = .ok (.ifCond .ne 5, 3) := by decide +kernel
theorem s174_15 {d : Nat} {st : List Value} {σ : am_I} {ρ : am_R} {g : am_J} {τ : am_T} {Q : am_Q} {x0 x1 x2 x3 x4 x5 x6 : Value} {v : Int32} : AW d 174 15 [x0, x1, x2, x3, x4, x5, x6] (.int v :: st) σ ρ g τ Q = if ¬ v = 0 then AW d 174 20 [x0, x1, x2, x3, x4, x5, x6] (st) σ ρ g τ Q else AW d 174 18 [x0, x1, x2, x3, x4, x5, x6] (st) σ ρ g τ Q := aw_br m174 d174_15 rfl rfl rfl
theorem d174_18 : decode cX12_yields 18 = .ok (.iconst (-1), 1) := by decide +kernel
theorem s174_18 {d : Nat} {st : List Value} {σ : am_I} {ρ : am_R} {g : am_J} {τ : am_T} {Q : am_Q} {x0 x1 x2 x3 x4 x5 x6 : Value} : AW d 174 18 [x0, x1, x2, x3, x4, x5, x6] (st) σ ρ g τ Q = AW d 174 19 [x0, x1, x2, x3, x4, x5, x6] (.int (-1) :: st) σ ρ g τ Q := aw_lc m174 d174_18 rfl rfl rfl
theorem d174_19 : decode cX12_yields 19 = .ok (.ireturn, 1) := by decide +kernel
theorem s174_19 {d : Nat} {σ : am_I} {ρ : am_R} {g : am_J} {τ : am_T} {Q : am_Q} {x0 x1 x2 x3 x4 x5 x6 : Value} {v : Int32} : AW d 174 19 [x0, x1, x2, x3, x4, x5, x6] ([.int v]) σ ρ g τ Q = Q (some (.int v)) σ ρ g τ := aw_ri m174 d174_19 rfl
theorem d174_20 : decode cX12_yields 20 = .ok (.aload_n 0, 1) := by decide +kernel
theorem s174_20 {d : Nat} {st : List Value} {σ : am_I} {ρ : am_R} {g : am_J} {τ : am_T} {Q : am_Q} {x1 x2 x3 x4 x5 x6 : Value} {v : Nat} : AW d 174 20 [.ref v, x1, x2, x3, x4, x5, x6] (st) σ ρ g τ Q = AW d 174 21 [.ref v, x1, x2, x3, x4, x5, x6] (.ref v :: st) σ ρ g τ Q := aw_lc m174 d174_20 rfl rfl rfl
theorem d174_21 : decode cX12_yields 21 = .ok (.getfield 151, 3) := by decide +kernel
theorem s174_21 {d : Nat} {st : List Value} {σ : am_I} {ρ : am_R} {g : am_J} {τ : am_T} {Q : am_Q} {x0 x1 x2 x3 x4 x5 x6 : Value} {a : Nat} (ht : τ.1 a = 12) : AW d 174 21 [x0, x1, x2, x3, x4, x5, x6] (.ref a :: st) σ ρ g τ Q = AW d 174 24 [x0, x1, x2, x3, x4, x5, x6] (va_rf (ρ a 49) :: st) σ ρ g τ Q := aw_gr m174 d174_21 rfl rfl rfl ht
theorem d174_24 : decode cX12_yields 24 = .ok (.iload_n 2, 1) := by decide +kernel
theorem s174_24 {d : Nat} {st : List Value} {σ : am_I} {ρ : am_R} {g : am_J} {τ : am_T} {Q : am_Q} {x0 x1 x3 x4 x5 x6 : Value} {v : Int32} : AW d 174 24 [x0, x1, .int v, x3, x4, x5, x6] (st) σ ρ g τ Q = AW d 174 25 [x0, x1, .int v, x3, x4, x5, x6] (.int v :: st) σ ρ g τ Q := aw_lc m174 d174_24 rfl rfl rfl
theorem d174_25 : decode cX12_yields 25 = .ok (.iaload, 1) := by decide +kernel
theorem s174_25 {d : Nat} {st : List Value} {σ : am_I} {ρ : am_R} {g : am_J} {τ : am_T} {Q : am_Q} {x0 x1 x2 x3 x4 x5 x6 : Value} {a : Nat} {j : Int32} (ht : τ.1 a = 15) (hj : am_inb j (τ.2.1 a) = true) : AW d 174 25 [x0, x1, x2, x3, x4, x5, x6] (.int j :: .ref a :: st) σ ρ g τ Q = AW d 174 26 [x0, x1, x2, x3, x4, x5, x6] (.int (σ a j.toNatClampNeg) :: st) σ ρ g τ Q := aw_ial m174 d174_25 rfl ht hj
theorem d174_26 : decode cX12_yields 26 = .ok (.ifCond .lt 16, 3) := by decide +kernel
theorem s174_26 {d : Nat} {st : List Value} {σ : am_I} {ρ : am_R} {g : am_J} {τ : am_T} {Q : am_Q} {x0 x1 x2 x3 x4 x5 x6 : Value} {v : Int32} : AW d 174 26 [x0, x1, x2, x3, x4, x5, x6] (.int v :: st) σ ρ g τ Q = if v < 0 then AW d 174 42 [x0, x1, x2, x3, x4, x5, x6] (st) σ ρ g τ Q else AW d 174 29 [x0, x1, x2, x3, x4, x5, x6] (st) σ ρ g τ Q := aw_br m174 d174_26 rfl rfl rfl
theorem d174_29 : decode cX12_yields 29 = .ok (.aload_n 0, 1) := by decide +kernel
theorem s174_29 {d : Nat} {st : List Value} {σ : am_I} {ρ : am_R} {g : am_J} {τ : am_T} {Q : am_Q} {x1 x2 x3 x4 x5 x6 : Value} {v : Nat} : AW d 174 29 [.ref v, x1, x2, x3, x4, x5, x6] (st) σ ρ g τ Q = AW d 174 30 [.ref v, x1, x2, x3, x4, x5, x6] (.ref v :: st) σ ρ g τ Q := aw_lc m174 d174_29 rfl rfl rfl
theorem d174_30 : decode cX12_yields 30 = .ok (.getfield 151, 3) := by decide +kernel
theorem s174_30 {d : Nat} {st : List Value} {σ : am_I} {ρ : am_R} {g : am_J} {τ : am_T} {Q : am_Q} {x0 x1 x2 x3 x4 x5 x6 : Value} {a : Nat} (ht : τ.1 a = 12) : AW d 174 30 [x0, x1, x2, x3, x4, x5, x6] (.ref a :: st) σ ρ g τ Q = AW d 174 33 [x0, x1, x2, x3, x4, x5, x6] (va_rf (ρ a 49) :: st) σ ρ g τ Q := aw_gr m174 d174_30 rfl rfl rfl ht
theorem d174_33 : decode cX12_yields 33 = .ok (.iload_n 2, 1) := by decide +kernel
theorem s174_33 {d : Nat} {st : List Value} {σ : am_I} {ρ : am_R} {g : am_J} {τ : am_T} {Q : am_Q} {x0 x1 x3 x4 x5 x6 : Value} {v : Int32} : AW d 174 33 [x0, x1, .int v, x3, x4, x5, x6] (st) σ ρ g τ Q = AW d 174 34 [x0, x1, .int v, x3, x4, x5, x6] (.int v :: st) σ ρ g τ Q := aw_lc m174 d174_33 rfl rfl rfl
theorem d174_34 : decode cX12_yields 34 = .ok (.iaload, 1) := by decide +kernel
theorem s174_34 {d : Nat} {st : List Value} {σ : am_I} {ρ : am_R} {g : am_J} {τ : am_T} {Q : am_Q} {x0 x1 x2 x3 x4 x5 x6 : Value} {a : Nat} {j : Int32} (ht : τ.1 a = 15) (hj : am_inb j (τ.2.1 a) = true) : AW d 174 34 [x0, x1, x2, x3, x4, x5, x6] (.int j :: .ref a :: st) σ ρ g τ Q = AW d 174 35 [x0, x1, x2, x3, x4, x5, x6] (.int (σ a j.toNatClampNeg) :: st) σ ρ g τ Q := aw_ial m174 d174_34 rfl ht hj
theorem d174_35 : decode cX12_yields 35 = .ok (.iconst 1, 1) := by decide +kernel
theorem s174_35 {d : Nat} {st : List Value} {σ : am_I} {ρ : am_R} {g : am_J} {τ : am_T} {Q : am_Q} {x0 x1 x2 x3 x4 x5 x6 : Value} : AW d 174 35 [x0, x1, x2, x3, x4, x5, x6] (st) σ ρ g τ Q = AW d 174 36 [x0, x1, x2, x3, x4, x5, x6] (.int 1 :: st) σ ρ g τ Q := aw_lc m174 d174_35 rfl rfl rfl
theorem d174_36 : decode cX12_yields 36 = .ok (.if_icmp .eq 6, 3) := by decide +kernel
theorem s174_36 {d : Nat} {st : List Value} {σ : am_I} {ρ : am_R} {g : am_J} {τ : am_T} {Q : am_Q} {x0 x1 x2 x3 x4 x5 x6 : Value} {v w : Int32} : AW d 174 36 [x0, x1, x2, x3, x4, x5, x6] (.int w :: .int v :: st) σ ρ g τ Q = if v = w then AW d 174 42 [x0, x1, x2, x3, x4, x5, x6] (st) σ ρ g τ Q else AW d 174 39 [x0, x1, x2, x3, x4, x5, x6] (st) σ ρ g τ Q := aw_br m174 d174_36 rfl rfl rfl
theorem d174_39 : decode cX12_yields 39 = .ok (.bipush (-13), 2) := by decide +kernel
theorem s174_39 {d : Nat} {st : List Value} {σ : am_I} {ρ : am_R} {g : am_J} {τ : am_T} {Q : am_Q} {x0 x1 x2 x3 x4 x5 x6 : Value} : AW d 174 39 [x0, x1, x2, x3, x4, x5, x6] (st) σ ρ g τ Q = AW d 174 41 [x0, x1, x2, x3, x4, x5, x6] (.int (-13) :: st) σ ρ g τ Q := aw_lc m174 d174_39 rfl rfl rfl
theorem d174_41 : decode cX12_yields 41 = .ok (.ireturn, 1) := by decide +kernel
theorem s174_41 {d : Nat} {σ : am_I} {ρ : am_R} {g : am_J} {τ : am_T} {Q : am_Q} {x0 x1 x2 x3 x4 x5 x6 : Value} {v : Int32} : AW d 174 41 [x0, x1, x2, x3, x4, x5, x6] ([.int v]) σ ρ g τ Q = Q (some (.int v)) σ ρ g τ := aw_ri m174 d174_41 rfl
theorem d174_42 : decode cX12_yields 42 = .ok (.aload_n 0, 1) := by decide +kernel
theorem s174_42 {d : Nat} {st : List Value} {σ : am_I} {ρ : am_R} {g : am_J} {τ : am_T} {Q : am_Q} {x1 x2 x3 x4 x5 x6 : Value} {v : Nat} : AW d 174 42 [.ref v, x1, x2, x3, x4, x5, x6] (st) σ ρ g τ Q = AW d 174 43 [.ref v, x1, x2, x3, x4, x5, x6] (.ref v :: st) σ ρ g τ Q := aw_lc m174 d174_42 rfl rfl rfl
theorem d174_43 : decode cX12_yields 43 = .ok (.getfield 151, 3) := by decide +kernel
theorem s174_43 {d : Nat} {st : List Value} {σ : am_I} {ρ : am_R} {g : am_J} {τ : am_T} {Q : am_Q} {x0 x1 x2 x3 x4 x5 x6 : Value} {a : Nat} (ht : τ.1 a = 12) : AW d 174 43 [x0, x1, x2, x3, x4, x5, x6] (.ref a :: st) σ ρ g τ Q = AW d 174 46 [x0, x1, x2, x3, x4, x5, x6] (va_rf (ρ a 49) :: st) σ ρ g τ Q := aw_gr m174 d174_43 rfl rfl rfl ht
theorem d174_46 : decode cX12_yields 46 = .ok (.iload_n 2, 1) := by decide +kernel
theorem s174_46 {d : Nat} {st : List Value} {σ : am_I} {ρ : am_R} {g : am_J} {τ : am_T} {Q : am_Q} {x0 x1 x3 x4 x5 x6 : Value} {v : Int32} : AW d 174 46 [x0, x1, .int v, x3, x4, x5, x6] (st) σ ρ g τ Q = AW d 174 47 [x0, x1, .int v, x3, x4, x5, x6] (.int v :: st) σ ρ g τ Q := aw_lc m174 d174_46 rfl rfl rfl
theorem d174_47 : decode cX12_yields 47 = .ok (.iaload, 1) := by decide +kernel
theorem s174_47 {d : Nat} {st : List Value} {σ : am_I} {ρ : am_R} {g : am_J} {τ : am_T} {Q : am_Q} {x0 x1 x2 x3 x4 x5 x6 : Value} {a : Nat} {j : Int32} (ht : τ.1 a = 15) (hj : am_inb j (τ.2.1 a) = true) : AW d 174 47 [x0, x1, x2, x3, x4, x5, x6] (.int j :: .ref a :: st) σ ρ g τ Q = AW d 174 48 [x0, x1, x2, x3, x4, x5, x6] (.int (σ a j.toNatClampNeg) :: st) σ ρ g τ Q := aw_ial m174 d174_47 rfl ht hj
theorem d174_48 : decode cX12_yields 48 = .ok (.ifCond .ge 6, 3) := by decide +kernel
theorem s174_48 {d : Nat} {st : List Value} {σ : am_I} {ρ : am_R} {g : am_J} {τ : am_T} {Q : am_Q} {x0 x1 x2 x3 x4 x5 x6 : Value} {v : Int32} : AW d 174 48 [x0, x1, x2, x3, x4, x5, x6] (.int v :: st) σ ρ g τ Q = if 0 ≤ v then AW d 174 54 [x0, x1, x2, x3, x4, x5, x6] (st) σ ρ g τ Q else AW d 174 51 [x0, x1, x2, x3, x4, x5, x6] (st) σ ρ g τ Q := aw_br m174 d174_48 rfl rfl rfl
theorem d174_51 : decode cX12_yields 51 = .ok (.bipush (-11), 2) := by decide +kernel
theorem s174_51 {d : Nat} {st : List Value} {σ : am_I} {ρ : am_R} {g : am_J} {τ : am_T} {Q : am_Q} {x0 x1 x2 x3 x4 x5 x6 : Value} : AW d 174 51 [x0, x1, x2, x3, x4, x5, x6] (st) σ ρ g τ Q = AW d 174 53 [x0, x1, x2, x3, x4, x5, x6] (.int (-11) :: st) σ ρ g τ Q := aw_lc m174 d174_51 rfl rfl rfl
theorem d174_53 : decode cX12_yields 53 = .ok (.ireturn, 1) := by decide +kernel
theorem s174_53 {d : Nat} {σ : am_I} {ρ : am_R} {g : am_J} {τ : am_T} {Q : am_Q} {x0 x1 x2 x3 x4 x5 x6 : Value} {v : Int32} : AW d 174 53 [x0, x1, x2, x3, x4, x5, x6] ([.int v]) σ ρ g τ Q = Q (some (.int v)) σ ρ g τ := aw_ri m174 d174_53 rfl
theorem d174_54 : decode cX12_yields 54 = .ok (.iload_n 3, 1) := by decide +kernel
theorem s174_54 {d : Nat} {st : List Value} {σ : am_I} {ρ : am_R} {g : am_J} {τ : am_T} {Q : am_Q} {x0 x1 x2 x4 x5 x6 : Value} {v : Int32} : AW d 174 54 [x0, x1, x2, .int v, x4, x5, x6] (st) σ ρ g τ Q = AW d 174 55 [x0, x1, x2, .int v, x4, x5, x6] (.int v :: st) σ ρ g τ Q := aw_lc m174 d174_54 rfl rfl rfl
theorem d174_55 : decode cX12_yields 55 = .ok (.ifCond .lt 15, 3) := by decide +kernel
theorem s174_55 {d : Nat} {st : List Value} {σ : am_I} {ρ : am_R} {g : am_J} {τ : am_T} {Q : am_Q} {x0 x1 x2 x3 x4 x5 x6 : Value} {v : Int32} : AW d 174 55 [x0, x1, x2, x3, x4, x5, x6] (.int v :: st) σ ρ g τ Q = if v < 0 then AW d 174 70 [x0, x1, x2, x3, x4, x5, x6] (st) σ ρ g τ Q else AW d 174 58 [x0, x1, x2, x3, x4, x5, x6] (st) σ ρ g τ Q := aw_br m174 d174_55 rfl rfl rfl
theorem d174_58 : decode cX12_yields 58 = .ok (.iload_n 3, 1) := by decide +kernel
theorem s174_58 {d : Nat} {st : List Value} {σ : am_I} {ρ : am_R} {g : am_J} {τ : am_T} {Q : am_Q} {x0 x1 x2 x4 x5 x6 : Value} {v : Int32} : AW d 174 58 [x0, x1, x2, .int v, x4, x5, x6] (st) σ ρ g τ Q = AW d 174 59 [x0, x1, x2, .int v, x4, x5, x6] (.int v :: st) σ ρ g τ Q := aw_lc m174 d174_58 rfl rfl rfl
theorem d174_59 : decode cX12_yields 59 = .ok (.aload_n 0, 1) := by decide +kernel
theorem s174_59 {d : Nat} {st : List Value} {σ : am_I} {ρ : am_R} {g : am_J} {τ : am_T} {Q : am_Q} {x1 x2 x3 x4 x5 x6 : Value} {v : Nat} : AW d 174 59 [.ref v, x1, x2, x3, x4, x5, x6] (st) σ ρ g τ Q = AW d 174 60 [.ref v, x1, x2, x3, x4, x5, x6] (.ref v :: st) σ ρ g τ Q := aw_lc m174 d174_59 rfl rfl rfl
theorem d174_60 : decode cX12_yields 60 = .ok (.getfield 154, 3) := by decide +kernel
theorem s174_60 {d : Nat} {st : List Value} {σ : am_I} {ρ : am_R} {g : am_J} {τ : am_T} {Q : am_Q} {x0 x1 x2 x3 x4 x5 x6 : Value} {a : Nat} (ht : τ.1 a = 12) : AW d 174 60 [x0, x1, x2, x3, x4, x5, x6] (.ref a :: st) σ ρ g τ Q = AW d 174 63 [x0, x1, x2, x3, x4, x5, x6] (va_rf (ρ a 50) :: st) σ ρ g τ Q := aw_gr m174 d174_60 rfl rfl rfl ht
theorem d174_63 : decode cX12_yields 63 = .ok (.iload_n 2, 1) := by decide +kernel
theorem s174_63 {d : Nat} {st : List Value} {σ : am_I} {ρ : am_R} {g : am_J} {τ : am_T} {Q : am_Q} {x0 x1 x3 x4 x5 x6 : Value} {v : Int32} : AW d 174 63 [x0, x1, .int v, x3, x4, x5, x6] (st) σ ρ g τ Q = AW d 174 64 [x0, x1, .int v, x3, x4, x5, x6] (.int v :: st) σ ρ g τ Q := aw_lc m174 d174_63 rfl rfl rfl
theorem d174_64 : decode cX12_yields 64 = .ok (.iaload, 1) := by decide +kernel
theorem s174_64 {d : Nat} {st : List Value} {σ : am_I} {ρ : am_R} {g : am_J} {τ : am_T} {Q : am_Q} {x0 x1 x2 x3 x4 x5 x6 : Value} {a : Nat} {j : Int32} (ht : τ.1 a = 15) (hj : am_inb j (τ.2.1 a) = true) : AW d 174 64 [x0, x1, x2, x3, x4, x5, x6] (.int j :: .ref a :: st) σ ρ g τ Q = AW d 174 65 [x0, x1, x2, x3, x4, x5, x6] (.int (σ a j.toNatClampNeg) :: st) σ ρ g τ Q := aw_ial m174 d174_64 rfl ht hj
theorem d174_65 : decode cX12_yields 65 = .ok (.iconst 3, 1) := by decide +kernel
theorem s174_65 {d : Nat} {st : List Value} {σ : am_I} {ρ : am_R} {g : am_J} {τ : am_T} {Q : am_Q} {x0 x1 x2 x3 x4 x5 x6 : Value} : AW d 174 65 [x0, x1, x2, x3, x4, x5, x6] (st) σ ρ g τ Q = AW d 174 66 [x0, x1, x2, x3, x4, x5, x6] (.int 3 :: st) σ ρ g τ Q := aw_lc m174 d174_65 rfl rfl rfl
theorem d174_66 : decode cX12_yields 66 = .ok (.isub, 1) := by decide +kernel
theorem s174_66 {d : Nat} {st : List Value} {σ : am_I} {ρ : am_R} {g : am_J} {τ : am_T} {Q : am_Q} {x0 x1 x2 x3 x4 x5 x6 : Value} {v w : Int32} : AW d 174 66 [x0, x1, x2, x3, x4, x5, x6] (.int w :: .int v :: st) σ ρ g τ Q = AW d 174 67 [x0, x1, x2, x3, x4, x5, x6] (.int (v - w) :: st) σ ρ g τ Q := aw_lc m174 d174_66 rfl rfl rfl
theorem d174_67 : decode cX12_yields 67 = .ok (.if_icmp .le 6, 3) := by decide +kernel
theorem s174_67 {d : Nat} {st : List Value} {σ : am_I} {ρ : am_R} {g : am_J} {τ : am_T} {Q : am_Q} {x0 x1 x2 x3 x4 x5 x6 : Value} {v w : Int32} : AW d 174 67 [x0, x1, x2, x3, x4, x5, x6] (.int w :: .int v :: st) σ ρ g τ Q = if v ≤ w then AW d 174 73 [x0, x1, x2, x3, x4, x5, x6] (st) σ ρ g τ Q else AW d 174 70 [x0, x1, x2, x3, x4, x5, x6] (st) σ ρ g τ Q := aw_br m174 d174_67 rfl rfl rfl
theorem d174_70 : decode cX12_yields 70 = .ok (.bipush (-12), 2) := by decide +kernel
theorem s174_70 {d : Nat} {st : List Value} {σ : am_I} {ρ : am_R} {g : am_J} {τ : am_T} {Q : am_Q} {x0 x1 x2 x3 x4 x5 x6 : Value} : AW d 174 70 [x0, x1, x2, x3, x4, x5, x6] (st) σ ρ g τ Q = AW d 174 72 [x0, x1, x2, x3, x4, x5, x6] (.int (-12) :: st) σ ρ g τ Q := aw_lc m174 d174_70 rfl rfl rfl
theorem d174_72 : decode cX12_yields 72 = .ok (.ireturn, 1) := by decide +kernel
theorem s174_72 {d : Nat} {σ : am_I} {ρ : am_R} {g : am_J} {τ : am_T} {Q : am_Q} {x0 x1 x2 x3 x4 x5 x6 : Value} {v : Int32} : AW d 174 72 [x0, x1, x2, x3, x4, x5, x6] ([.int v]) σ ρ g τ Q = Q (some (.int v)) σ ρ g τ := aw_ri m174 d174_72 rfl
theorem d174_73 : decode cX12_yields 73 = .ok (.iconst 0, 1) := by decide +kernel
theorem s174_73 {d : Nat} {st : List Value} {σ : am_I} {ρ : am_R} {g : am_J} {τ : am_T} {Q : am_Q} {x0 x1 x2 x3 x4 x5 x6 : Value} : AW d 174 73 [x0, x1, x2, x3, x4, x5, x6] (st) σ ρ g τ Q = AW d 174 74 [x0, x1, x2, x3, x4, x5, x6] (.int 0 :: st) σ ρ g τ Q := aw_lc m174 d174_73 rfl rfl rfl
theorem d174_74 : decode cX12_yields 74 = .ok (.istore 4, 2) := by decide +kernel
theorem s174_74 {d : Nat} {st : List Value} {σ : am_I} {ρ : am_R} {g : am_J} {τ : am_T} {Q : am_Q} {x0 x1 x2 x4 x5 x6 : Value} {v : Int32} {u : Int32} : AW d 174 74 [x0, x1, x2, .int u, x4, x5, x6] (.int v :: st) σ ρ g τ Q = AW d 174 76 [x0, x1, x2, .int u, .int v, x5, x6] (st) σ ρ g τ Q := aw_lc m174 d174_74 rfl rfl rfl
theorem d174_76 : decode cX12_yields 76 = .ok (.iload 4, 2) := by decide +kernel
theorem s174_76 {d : Nat} {st : List Value} {σ : am_I} {ρ : am_R} {g : am_J} {τ : am_T} {Q : am_Q} {x0 x1 x2 x3 x5 x6 : Value} {v : Int32} : AW d 174 76 [x0, x1, x2, x3, .int v, x5, x6] (st) σ ρ g τ Q = AW d 174 78 [x0, x1, x2, x3, .int v, x5, x6] (.int v :: st) σ ρ g τ Q := aw_lc m174 d174_76 rfl rfl rfl
theorem d174_78 : decode cX12_yields 78 = .ok (.iconst 3, 1) := by decide +kernel
theorem s174_78 {d : Nat} {st : List Value} {σ : am_I} {ρ : am_R} {g : am_J} {τ : am_T} {Q : am_Q} {x0 x1 x2 x3 x4 x5 x6 : Value} : AW d 174 78 [x0, x1, x2, x3, x4, x5, x6] (st) σ ρ g τ Q = AW d 174 79 [x0, x1, x2, x3, x4, x5, x6] (.int 3 :: st) σ ρ g τ Q := aw_lc m174 d174_78 rfl rfl rfl
theorem d174_79 : decode cX12_yields 79 = .ok (.if_icmp .ge 44, 3) := by decide +kernel
theorem s174_79 {d : Nat} {st : List Value} {σ : am_I} {ρ : am_R} {g : am_J} {τ : am_T} {Q : am_Q} {x0 x1 x2 x3 x4 x5 x6 : Value} {v w : Int32} : AW d 174 79 [x0, x1, x2, x3, x4, x5, x6] (.int w :: .int v :: st) σ ρ g τ Q = if w ≤ v then AW d 174 123 [x0, x1, x2, x3, x4, x5, x6] (st) σ ρ g τ Q else AW d 174 82 [x0, x1, x2, x3, x4, x5, x6] (st) σ ρ g τ Q := aw_br m174 d174_79 rfl rfl rfl
theorem d174_82 : decode cX12_yields 82 = .ok (.aload_n 0, 1) := by decide +kernel
theorem s174_82 {d : Nat} {st : List Value} {σ : am_I} {ρ : am_R} {g : am_J} {τ : am_T} {Q : am_Q} {x1 x2 x3 x4 x5 x6 : Value} {v : Nat} : AW d 174 82 [.ref v, x1, x2, x3, x4, x5, x6] (st) σ ρ g τ Q = AW d 174 83 [.ref v, x1, x2, x3, x4, x5, x6] (.ref v :: st) σ ρ g τ Q := aw_lc m174 d174_82 rfl rfl rfl
theorem d174_83 : decode cX12_yields 83 = .ok (.getfield 147, 3) := by decide +kernel
theorem s174_83 {d : Nat} {st : List Value} {σ : am_I} {ρ : am_R} {g : am_J} {τ : am_T} {Q : am_Q} {x0 x1 x2 x3 x4 x5 x6 : Value} {a : Nat} (ht : τ.1 a = 12) : AW d 174 83 [x0, x1, x2, x3, x4, x5, x6] (.ref a :: st) σ ρ g τ Q = AW d 174 86 [x0, x1, x2, x3, x4, x5, x6] (va_rf (ρ a 48) :: st) σ ρ g τ Q := aw_gr m174 d174_83 rfl rfl rfl ht
theorem d174_86 : decode cX12_yields 86 = .ok (.bipush 40, 2) := by decide +kernel
theorem s174_86 {d : Nat} {st : List Value} {σ : am_I} {ρ : am_R} {g : am_J} {τ : am_T} {Q : am_Q} {x0 x1 x2 x3 x4 x5 x6 : Value} : AW d 174 86 [x0, x1, x2, x3, x4, x5, x6] (st) σ ρ g τ Q = AW d 174 88 [x0, x1, x2, x3, x4, x5, x6] (.int 40 :: st) σ ρ g τ Q := aw_lc m174 d174_86 rfl rfl rfl
theorem d174_88 : decode cX12_yields 88 = .ok (.iload_n 2, 1) := by decide +kernel
theorem s174_88 {d : Nat} {st : List Value} {σ : am_I} {ρ : am_R} {g : am_J} {τ : am_T} {Q : am_Q} {x0 x1 x3 x4 x5 x6 : Value} {v : Int32} : AW d 174 88 [x0, x1, .int v, x3, x4, x5, x6] (st) σ ρ g τ Q = AW d 174 89 [x0, x1, .int v, x3, x4, x5, x6] (.int v :: st) σ ρ g τ Q := aw_lc m174 d174_88 rfl rfl rfl
theorem d174_89 : decode cX12_yields 89 = .ok (.imul, 1) := by decide +kernel
theorem s174_89 {d : Nat} {st : List Value} {σ : am_I} {ρ : am_R} {g : am_J} {τ : am_T} {Q : am_Q} {x0 x1 x2 x3 x4 x5 x6 : Value} {v w : Int32} : AW d 174 89 [x0, x1, x2, x3, x4, x5, x6] (.int w :: .int v :: st) σ ρ g τ Q = AW d 174 90 [x0, x1, x2, x3, x4, x5, x6] (.int (v * w) :: st) σ ρ g τ Q := aw_lc m174 d174_89 rfl rfl rfl
theorem d174_90 : decode cX12_yields 90 = .ok (.iload_n 3, 1) := by decide +kernel
theorem s174_90 {d : Nat} {st : List Value} {σ : am_I} {ρ : am_R} {g : am_J} {τ : am_T} {Q : am_Q} {x0 x1 x2 x4 x5 x6 : Value} {v : Int32} : AW d 174 90 [x0, x1, x2, .int v, x4, x5, x6] (st) σ ρ g τ Q = AW d 174 91 [x0, x1, x2, .int v, x4, x5, x6] (.int v :: st) σ ρ g τ Q := aw_lc m174 d174_90 rfl rfl rfl
theorem d174_91 : decode cX12_yields 91 = .ok (.iadd, 1) := by decide +kernel
theorem s174_91 {d : Nat} {st : List Value} {σ : am_I} {ρ : am_R} {g : am_J} {τ : am_T} {Q : am_Q} {x0 x1 x2 x3 x4 x5 x6 : Value} {v w : Int32} : AW d 174 91 [x0, x1, x2, x3, x4, x5, x6] (.int w :: .int v :: st) σ ρ g τ Q = AW d 174 92 [x0, x1, x2, x3, x4, x5, x6] (.int (v + w) :: st) σ ρ g τ Q := aw_lc m174 d174_91 rfl rfl rfl
theorem d174_92 : decode cX12_yields 92 = .ok (.iload 4, 2) := by decide +kernel
theorem s174_92 {d : Nat} {st : List Value} {σ : am_I} {ρ : am_R} {g : am_J} {τ : am_T} {Q : am_Q} {x0 x1 x2 x3 x5 x6 : Value} {v : Int32} : AW d 174 92 [x0, x1, x2, x3, .int v, x5, x6] (st) σ ρ g τ Q = AW d 174 94 [x0, x1, x2, x3, .int v, x5, x6] (.int v :: st) σ ρ g τ Q := aw_lc m174 d174_92 rfl rfl rfl
theorem d174_94 : decode cX12_yields 94 = .ok (.iadd, 1) := by decide +kernel
theorem s174_94 {d : Nat} {st : List Value} {σ : am_I} {ρ : am_R} {g : am_J} {τ : am_T} {Q : am_Q} {x0 x1 x2 x3 x4 x5 x6 : Value} {v w : Int32} : AW d 174 94 [x0, x1, x2, x3, x4, x5, x6] (.int w :: .int v :: st) σ ρ g τ Q = AW d 174 95 [x0, x1, x2, x3, x4, x5, x6] (.int (v + w) :: st) σ ρ g τ Q := aw_lc m174 d174_94 rfl rfl rfl
theorem d174_95 : decode cX12_yields 95 = .ok (.laload, 1) := by decide +kernel
theorem s174_95 {d : Nat} {st : List Value} {σ : am_I} {ρ : am_R} {g : am_J} {τ : am_T} {Q : am_Q} {x0 x1 x2 x3 x4 x5 x6 : Value} {a : Nat} {j : Int32} (ht : τ.1 a = 16) (hj : am_inb j (τ.2.1 a) = true) : AW d 174 95 [x0, x1, x2, x3, x4, x5, x6] (.int j :: .ref a :: st) σ ρ g τ Q = AW d 174 96 [x0, x1, x2, x3, x4, x5, x6] (.long (g a j.toNatClampNeg) :: st) σ ρ g τ Q := aw_lal m174 d174_95 rfl ht hj
theorem d174_96 : decode cX12_yields 96 = .ok (.lstore 5, 2) := by decide +kernel
theorem s174_96 {d : Nat} {st : List Value} {σ : am_I} {ρ : am_R} {g : am_J} {τ : am_T} {Q : am_Q} {x0 x1 x2 x3 x5 x6 : Value} {v : Int64} {u : Int32} : AW d 174 96 [x0, x1, x2, x3, .int u, x5, x6] (.long v :: st) σ ρ g τ Q = AW d 174 98 [x0, x1, x2, x3, .int u, .long v, am_jk] (st) σ ρ g τ Q := aw_lc m174 d174_96 rfl rfl rfl
theorem d174_98 : decode cX12_yields 98 = .ok (.lload 5, 2) := by decide +kernel
theorem s174_98 {d : Nat} {st : List Value} {σ : am_I} {ρ : am_R} {g : am_J} {τ : am_T} {Q : am_Q} {x0 x1 x2 x3 x4 x6 : Value} {v : Int64} : AW d 174 98 [x0, x1, x2, x3, x4, .long v, x6] (st) σ ρ g τ Q = AW d 174 100 [x0, x1, x2, x3, x4, .long v, x6] (.long v :: st) σ ρ g τ Q := aw_lc m174 d174_98 rfl rfl rfl
theorem d174_100 : decode cX12_yields 100 = .ok (.lconst 0, 1) := by decide +kernel
theorem s174_100 {d : Nat} {st : List Value} {σ : am_I} {ρ : am_R} {g : am_J} {τ : am_T} {Q : am_Q} {x0 x1 x2 x3 x4 x5 x6 : Value} : AW d 174 100 [x0, x1, x2, x3, x4, x5, x6] (st) σ ρ g τ Q = AW d 174 101 [x0, x1, x2, x3, x4, x5, x6] (.long 0 :: st) σ ρ g τ Q := aw_lc m174 d174_100 rfl rfl rfl
theorem d174_101 : decode cX12_yields 101 = .ok (.lcmp, 1) := by decide +kernel
theorem s174_101 {d : Nat} {st : List Value} {σ : am_I} {ρ : am_R} {g : am_J} {τ : am_T} {Q : am_Q} {x0 x1 x2 x3 x4 x5 x6 : Value} {v w : Int64} : AW d 174 101 [x0, x1, x2, x3, x4, x5, x6] (.long w :: .long v :: st) σ ρ g τ Q = AW d 174 102 [x0, x1, x2, x3, x4, x5, x6] (.int (lg_cmp v w) :: st) σ ρ g τ Q := aw_lc m174 d174_101 rfl rfl rfl
theorem d174_102 : decode cX12_yields 102 = .ok (.ifCond .lt 12, 3) := by decide +kernel
theorem s174_102 {d : Nat} {st : List Value} {σ : am_I} {ρ : am_R} {g : am_J} {τ : am_T} {Q : am_Q} {x0 x1 x2 x3 x4 x5 x6 : Value} {v : Int32} : AW d 174 102 [x0, x1, x2, x3, x4, x5, x6] (.int v :: st) σ ρ g τ Q = if v < 0 then AW d 174 114 [x0, x1, x2, x3, x4, x5, x6] (st) σ ρ g τ Q else AW d 174 105 [x0, x1, x2, x3, x4, x5, x6] (st) σ ρ g τ Q := aw_br m174 d174_102 rfl rfl rfl
theorem d174_105 : decode cX12_yields 105 = .ok (.lload 5, 2) := by decide +kernel
theorem s174_105 {d : Nat} {st : List Value} {σ : am_I} {ρ : am_R} {g : am_J} {τ : am_T} {Q : am_Q} {x0 x1 x2 x3 x4 x6 : Value} {v : Int64} : AW d 174 105 [x0, x1, x2, x3, x4, .long v, x6] (st) σ ρ g τ Q = AW d 174 107 [x0, x1, x2, x3, x4, .long v, x6] (.long v :: st) σ ρ g τ Q := aw_lc m174 d174_105 rfl rfl rfl
theorem d174_107 : decode cX12_yields 107 = .ok (.ldc2_w 214, 3) := by decide +kernel
theorem s174_107 {d : Nat} {st : List Value} {σ : am_I} {ρ : am_R} {g : am_J} {τ : am_T} {Q : am_Q} {x0 x1 x2 x3 x4 x5 x6 : Value} : AW d 174 107 [x0, x1, x2, x3, x4, x5, x6] (st) σ ρ g τ Q = AW d 174 110 [x0, x1, x2, x3, x4, x5, x6] (.long 999 :: st) σ ρ g τ Q := aw_ldl m174 d174_107 rfl rfl
theorem d174_110 : decode cX12_yields 110 = .ok (.lcmp, 1) := by decide +kernel
theorem s174_110 {d : Nat} {st : List Value} {σ : am_I} {ρ : am_R} {g : am_J} {τ : am_T} {Q : am_Q} {x0 x1 x2 x3 x4 x5 x6 : Value} {v w : Int64} : AW d 174 110 [x0, x1, x2, x3, x4, x5, x6] (.long w :: .long v :: st) σ ρ g τ Q = AW d 174 111 [x0, x1, x2, x3, x4, x5, x6] (.int (lg_cmp v w) :: st) σ ρ g τ Q := aw_lc m174 d174_110 rfl rfl rfl
theorem d174_111 : decode cX12_yields 111 = .ok (.ifCond .le 6, 3) := by decide +kernel
theorem s174_111 {d : Nat} {st : List Value} {σ : am_I} {ρ : am_R} {g : am_J} {τ : am_T} {Q : am_Q} {x0 x1 x2 x3 x4 x5 x6 : Value} {v : Int32} : AW d 174 111 [x0, x1, x2, x3, x4, x5, x6] (.int v :: st) σ ρ g τ Q = if v ≤ 0 then AW d 174 117 [x0, x1, x2, x3, x4, x5, x6] (st) σ ρ g τ Q else AW d 174 114 [x0, x1, x2, x3, x4, x5, x6] (st) σ ρ g τ Q := aw_br m174 d174_111 rfl rfl rfl
theorem d174_114 : decode cX12_yields 114 = .ok (.bipush (-4), 2) := by decide +kernel
theorem s174_114 {d : Nat} {st : List Value} {σ : am_I} {ρ : am_R} {g : am_J} {τ : am_T} {Q : am_Q} {x0 x1 x2 x3 x4 x5 x6 : Value} : AW d 174 114 [x0, x1, x2, x3, x4, x5, x6] (st) σ ρ g τ Q = AW d 174 116 [x0, x1, x2, x3, x4, x5, x6] (.int (-4) :: st) σ ρ g τ Q := aw_lc m174 d174_114 rfl rfl rfl
theorem d174_116 : decode cX12_yields 116 = .ok (.ireturn, 1) := by decide +kernel
theorem s174_116 {d : Nat} {σ : am_I} {ρ : am_R} {g : am_J} {τ : am_T} {Q : am_Q} {x0 x1 x2 x3 x4 x5 x6 : Value} {v : Int32} : AW d 174 116 [x0, x1, x2, x3, x4, x5, x6] ([.int v]) σ ρ g τ Q = Q (some (.int v)) σ ρ g τ := aw_ri m174 d174_116 rfl
theorem d174_117 : decode cX12_yields 117 = .ok (.iinc 4 1, 3) := by decide +kernel
theorem s174_117 {d : Nat} {st : List Value} {σ : am_I} {ρ : am_R} {g : am_J} {τ : am_T} {Q : am_Q} {x0 x1 x2 x5 x6 : Value} {v : Int32} {u : Int32} : AW d 174 117 [x0, x1, x2, .int u, .int v, x5, x6] (st) σ ρ g τ Q = AW d 174 120 [x0, x1, x2, .int u, .int (v + 1), x5, x6] (st) σ ρ g τ Q := aw_lc m174 d174_117 rfl rfl rfl
theorem d174_120 : decode cX12_yields 120 = .ok (.goto (-44), 3) := by decide +kernel
theorem s174_120 {d : Nat} {st : List Value} {σ : am_I} {ρ : am_R} {g : am_J} {τ : am_T} {Q : am_Q} {x0 x1 x2 x3 x4 x5 x6 : Value} : AW d 174 120 [x0, x1, x2, x3, x4, x5, x6] (st) σ ρ g τ Q = AW d 174 76 [x0, x1, x2, x3, x4, x5, x6] (st) σ ρ g τ Q := aw_lc m174 d174_120 rfl rfl rfl
theorem d174_123 : decode cX12_yields 123 = .ok (.iconst 0, 1) := by decide +kernel
theorem s174_123 {d : Nat} {st : List Value} {σ : am_I} {ρ : am_R} {g : am_J} {τ : am_T} {Q : am_Q} {x0 x1 x2 x3 x4 x5 x6 : Value} : AW d 174 123 [x0, x1, x2, x3, x4, x5, x6] (st) σ ρ g τ Q = AW d 174 124 [x0, x1, x2, x3, x4, x5, x6] (.int 0 :: st) σ ρ g τ Q := aw_lc m174 d174_123 rfl rfl rfl
theorem d174_124 : decode cX12_yields 124 = .ok (.istore 4, 2) := by decide +kernel
theorem s174_124 {d : Nat} {st : List Value} {σ : am_I} {ρ : am_R} {g : am_J} {τ : am_T} {Q : am_Q} {x0 x1 x2 x4 x5 x6 : Value} {v : Int32} {u : Int32} : AW d 174 124 [x0, x1, x2, .int u, x4, x5, x6] (.int v :: st) σ ρ g τ Q = AW d 174 126 [x0, x1, x2, .int u, .int v, x5, x6] (st) σ ρ g τ Q := aw_lc m174 d174_124 rfl rfl rfl
theorem d174_126 : decode cX12_yields 126 = .ok (.iload 4, 2) := by decide +kernel
theorem s174_126 {d : Nat} {st : List Value} {σ : am_I} {ρ : am_R} {g : am_J} {τ : am_T} {Q : am_Q} {x0 x1 x2 x3 x5 x6 : Value} {v : Int32} : AW d 174 126 [x0, x1, x2, x3, .int v, x5, x6] (st) σ ρ g τ Q = AW d 174 128 [x0, x1, x2, x3, .int v, x5, x6] (.int v :: st) σ ρ g τ Q := aw_lc m174 d174_126 rfl rfl rfl
theorem d174_128 : decode cX12_yields 128 = .ok (.iconst 3, 1) := by decide +kernel
theorem s174_128 {d : Nat} {st : List Value} {σ : am_I} {ρ : am_R} {g : am_J} {τ : am_T} {Q : am_Q} {x0 x1 x2 x3 x4 x5 x6 : Value} : AW d 174 128 [x0, x1, x2, x3, x4, x5, x6] (st) σ ρ g τ Q = AW d 174 129 [x0, x1, x2, x3, x4, x5, x6] (.int 3 :: st) σ ρ g τ Q := aw_lc m174 d174_128 rfl rfl rfl
theorem d174_129 : decode cX12_yields 129 = .ok (.if_icmp .ge 35, 3) := by decide +kernel
theorem s174_129 {d : Nat} {st : List Value} {σ : am_I} {ρ : am_R} {g : am_J} {τ : am_T} {Q : am_Q} {x0 x1 x2 x3 x4 x5 x6 : Value} {v w : Int32} : AW d 174 129 [x0, x1, x2, x3, x4, x5, x6] (.int w :: .int v :: st) σ ρ g τ Q = if w ≤ v then AW d 174 164 [x0, x1, x2, x3, x4, x5, x6] (st) σ ρ g τ Q else AW d 174 132 [x0, x1, x2, x3, x4, x5, x6] (st) σ ρ g τ Q := aw_br m174 d174_129 rfl rfl rfl
theorem d174_132 : decode cX12_yields 132 = .ok (.aload_n 0, 1) := by decide +kernel
theorem s174_132 {d : Nat} {st : List Value} {σ : am_I} {ρ : am_R} {g : am_J} {τ : am_T} {Q : am_Q} {x1 x2 x3 x4 x5 x6 : Value} {v : Nat} : AW d 174 132 [.ref v, x1, x2, x3, x4, x5, x6] (st) σ ρ g τ Q = AW d 174 133 [.ref v, x1, x2, x3, x4, x5, x6] (.ref v :: st) σ ρ g τ Q := aw_lc m174 d174_132 rfl rfl rfl
theorem d174_133 : decode cX12_yields 133 = .ok (.getfield 22, 3) := by decide +kernel
theorem s174_133 {d : Nat} {st : List Value} {σ : am_I} {ρ : am_R} {g : am_J} {τ : am_T} {Q : am_Q} {x0 x1 x2 x3 x4 x5 x6 : Value} {a : Nat} (ht : τ.1 a = 12) : AW d 174 133 [x0, x1, x2, x3, x4, x5, x6] (.ref a :: st) σ ρ g τ Q = AW d 174 136 [x0, x1, x2, x3, x4, x5, x6] (va_rf (ρ a 4) :: st) σ ρ g τ Q := aw_gr m174 d174_133 rfl rfl rfl ht
theorem d174_136 : decode cX12_yields 136 = .ok (.iconst 3, 1) := by decide +kernel
theorem s174_136 {d : Nat} {st : List Value} {σ : am_I} {ρ : am_R} {g : am_J} {τ : am_T} {Q : am_Q} {x0 x1 x2 x3 x4 x5 x6 : Value} : AW d 174 136 [x0, x1, x2, x3, x4, x5, x6] (st) σ ρ g τ Q = AW d 174 137 [x0, x1, x2, x3, x4, x5, x6] (.int 3 :: st) σ ρ g τ Q := aw_lc m174 d174_136 rfl rfl rfl
theorem d174_137 : decode cX12_yields 137 = .ok (.iload_n 1, 1) := by decide +kernel
theorem s174_137 {d : Nat} {st : List Value} {σ : am_I} {ρ : am_R} {g : am_J} {τ : am_T} {Q : am_Q} {x0 x2 x3 x4 x5 x6 : Value} {v : Int32} : AW d 174 137 [x0, .int v, x2, x3, x4, x5, x6] (st) σ ρ g τ Q = AW d 174 138 [x0, .int v, x2, x3, x4, x5, x6] (.int v :: st) σ ρ g τ Q := aw_lc m174 d174_137 rfl rfl rfl
theorem d174_138 : decode cX12_yields 138 = .ok (.imul, 1) := by decide +kernel
theorem s174_138 {d : Nat} {st : List Value} {σ : am_I} {ρ : am_R} {g : am_J} {τ : am_T} {Q : am_Q} {x0 x1 x2 x3 x4 x5 x6 : Value} {v w : Int32} : AW d 174 138 [x0, x1, x2, x3, x4, x5, x6] (.int w :: .int v :: st) σ ρ g τ Q = AW d 174 139 [x0, x1, x2, x3, x4, x5, x6] (.int (v * w) :: st) σ ρ g τ Q := aw_lc m174 d174_138 rfl rfl rfl
theorem d174_139 : decode cX12_yields 139 = .ok (.iload 4, 2) := by decide +kernel
theorem s174_139 {d : Nat} {st : List Value} {σ : am_I} {ρ : am_R} {g : am_J} {τ : am_T} {Q : am_Q} {x0 x1 x2 x3 x5 x6 : Value} {v : Int32} : AW d 174 139 [x0, x1, x2, x3, .int v, x5, x6] (st) σ ρ g τ Q = AW d 174 141 [x0, x1, x2, x3, .int v, x5, x6] (.int v :: st) σ ρ g τ Q := aw_lc m174 d174_139 rfl rfl rfl
theorem d174_141 : decode cX12_yields 141 = .ok (.iadd, 1) := by decide +kernel
theorem s174_141 {d : Nat} {st : List Value} {σ : am_I} {ρ : am_R} {g : am_J} {τ : am_T} {Q : am_Q} {x0 x1 x2 x3 x4 x5 x6 : Value} {v w : Int32} : AW d 174 141 [x0, x1, x2, x3, x4, x5, x6] (.int w :: .int v :: st) σ ρ g τ Q = AW d 174 142 [x0, x1, x2, x3, x4, x5, x6] (.int (v + w) :: st) σ ρ g τ Q := aw_lc m174 d174_141 rfl rfl rfl
theorem d174_142 : decode cX12_yields 142 = .ok (.aload_n 0, 1) := by decide +kernel
theorem s174_142 {d : Nat} {st : List Value} {σ : am_I} {ρ : am_R} {g : am_J} {τ : am_T} {Q : am_Q} {x1 x2 x3 x4 x5 x6 : Value} {v : Nat} : AW d 174 142 [.ref v, x1, x2, x3, x4, x5, x6] (st) σ ρ g τ Q = AW d 174 143 [.ref v, x1, x2, x3, x4, x5, x6] (.ref v :: st) σ ρ g τ Q := aw_lc m174 d174_142 rfl rfl rfl
theorem d174_143 : decode cX12_yields 143 = .ok (.getfield 147, 3) := by decide +kernel
theorem s174_143 {d : Nat} {st : List Value} {σ : am_I} {ρ : am_R} {g : am_J} {τ : am_T} {Q : am_Q} {x0 x1 x2 x3 x4 x5 x6 : Value} {a : Nat} (ht : τ.1 a = 12) : AW d 174 143 [x0, x1, x2, x3, x4, x5, x6] (.ref a :: st) σ ρ g τ Q = AW d 174 146 [x0, x1, x2, x3, x4, x5, x6] (va_rf (ρ a 48) :: st) σ ρ g τ Q := aw_gr m174 d174_143 rfl rfl rfl ht
theorem d174_146 : decode cX12_yields 146 = .ok (.bipush 40, 2) := by decide +kernel
theorem s174_146 {d : Nat} {st : List Value} {σ : am_I} {ρ : am_R} {g : am_J} {τ : am_T} {Q : am_Q} {x0 x1 x2 x3 x4 x5 x6 : Value} : AW d 174 146 [x0, x1, x2, x3, x4, x5, x6] (st) σ ρ g τ Q = AW d 174 148 [x0, x1, x2, x3, x4, x5, x6] (.int 40 :: st) σ ρ g τ Q := aw_lc m174 d174_146 rfl rfl rfl
theorem d174_148 : decode cX12_yields 148 = .ok (.iload_n 2, 1) := by decide +kernel
theorem s174_148 {d : Nat} {st : List Value} {σ : am_I} {ρ : am_R} {g : am_J} {τ : am_T} {Q : am_Q} {x0 x1 x3 x4 x5 x6 : Value} {v : Int32} : AW d 174 148 [x0, x1, .int v, x3, x4, x5, x6] (st) σ ρ g τ Q = AW d 174 149 [x0, x1, .int v, x3, x4, x5, x6] (.int v :: st) σ ρ g τ Q := aw_lc m174 d174_148 rfl rfl rfl
theorem d174_149 : decode cX12_yields 149 = .ok (.imul, 1) := by decide +kernel
theorem s174_149 {d : Nat} {st : List Value} {σ : am_I} {ρ : am_R} {g : am_J} {τ : am_T} {Q : am_Q} {x0 x1 x2 x3 x4 x5 x6 : Value} {v w : Int32} : AW d 174 149 [x0, x1, x2, x3, x4, x5, x6] (.int w :: .int v :: st) σ ρ g τ Q = AW d 174 150 [x0, x1, x2, x3, x4, x5, x6] (.int (v * w) :: st) σ ρ g τ Q := aw_lc m174 d174_149 rfl rfl rfl
theorem d174_150 : decode cX12_yields 150 = .ok (.iload_n 3, 1) := by decide +kernel
theorem s174_150 {d : Nat} {st : List Value} {σ : am_I} {ρ : am_R} {g : am_J} {τ : am_T} {Q : am_Q} {x0 x1 x2 x4 x5 x6 : Value} {v : Int32} : AW d 174 150 [x0, x1, x2, .int v, x4, x5, x6] (st) σ ρ g τ Q = AW d 174 151 [x0, x1, x2, .int v, x4, x5, x6] (.int v :: st) σ ρ g τ Q := aw_lc m174 d174_150 rfl rfl rfl
theorem d174_151 : decode cX12_yields 151 = .ok (.iadd, 1) := by decide +kernel
theorem s174_151 {d : Nat} {st : List Value} {σ : am_I} {ρ : am_R} {g : am_J} {τ : am_T} {Q : am_Q} {x0 x1 x2 x3 x4 x5 x6 : Value} {v w : Int32} : AW d 174 151 [x0, x1, x2, x3, x4, x5, x6] (.int w :: .int v :: st) σ ρ g τ Q = AW d 174 152 [x0, x1, x2, x3, x4, x5, x6] (.int (v + w) :: st) σ ρ g τ Q := aw_lc m174 d174_151 rfl rfl rfl
theorem d174_152 : decode cX12_yields 152 = .ok (.iload 4, 2) := by decide +kernel
theorem s174_152 {d : Nat} {st : List Value} {σ : am_I} {ρ : am_R} {g : am_J} {τ : am_T} {Q : am_Q} {x0 x1 x2 x3 x5 x6 : Value} {v : Int32} : AW d 174 152 [x0, x1, x2, x3, .int v, x5, x6] (st) σ ρ g τ Q = AW d 174 154 [x0, x1, x2, x3, .int v, x5, x6] (.int v :: st) σ ρ g τ Q := aw_lc m174 d174_152 rfl rfl rfl
theorem d174_154 : decode cX12_yields 154 = .ok (.iadd, 1) := by decide +kernel
theorem s174_154 {d : Nat} {st : List Value} {σ : am_I} {ρ : am_R} {g : am_J} {τ : am_T} {Q : am_Q} {x0 x1 x2 x3 x4 x5 x6 : Value} {v w : Int32} : AW d 174 154 [x0, x1, x2, x3, x4, x5, x6] (.int w :: .int v :: st) σ ρ g τ Q = AW d 174 155 [x0, x1, x2, x3, x4, x5, x6] (.int (v + w) :: st) σ ρ g τ Q := aw_lc m174 d174_154 rfl rfl rfl
theorem d174_155 : decode cX12_yields 155 = .ok (.laload, 1) := by decide +kernel
theorem s174_155 {d : Nat} {st : List Value} {σ : am_I} {ρ : am_R} {g : am_J} {τ : am_T} {Q : am_Q} {x0 x1 x2 x3 x4 x5 x6 : Value} {a : Nat} {j : Int32} (ht : τ.1 a = 16) (hj : am_inb j (τ.2.1 a) = true) : AW d 174 155 [x0, x1, x2, x3, x4, x5, x6] (.int j :: .ref a :: st) σ ρ g τ Q = AW d 174 156 [x0, x1, x2, x3, x4, x5, x6] (.long (g a j.toNatClampNeg) :: st) σ ρ g τ Q := aw_lal m174 d174_155 rfl ht hj
theorem d174_156 : decode cX12_yields 156 = .ok (.l2i, 1) := by decide +kernel
theorem s174_156 {d : Nat} {st : List Value} {σ : am_I} {ρ : am_R} {g : am_J} {τ : am_T} {Q : am_Q} {x0 x1 x2 x3 x4 x5 x6 : Value} {v : Int64} : AW d 174 156 [x0, x1, x2, x3, x4, x5, x6] (.long v :: st) σ ρ g τ Q = AW d 174 157 [x0, x1, x2, x3, x4, x5, x6] (.int v.toInt32 :: st) σ ρ g τ Q := aw_lc m174 d174_156 rfl rfl rfl
theorem d174_157 : decode cX12_yields 157 = .ok (.iastore, 1) := by decide +kernel
theorem s174_157 {d : Nat} {st : List Value} {σ : am_I} {ρ : am_R} {g : am_J} {τ : am_T} {Q : am_Q} {x0 x1 x2 x3 x4 x5 x6 : Value} {a : Nat} {j v : Int32} (ht : τ.1 a = 15) (ha : a < am_BG) (hj : am_inb j (τ.2.1 a) = true) : AW d 174 157 [x0, x1, x2, x3, x4, x5, x6] (.int v :: .int j :: .ref a :: st) σ ρ g τ Q = AW d 174 158 [x0, x1, x2, x3, x4, x5, x6] (st) (am_u σ a j.toNatClampNeg v) ρ g τ Q := aw_ias m174 d174_157 rfl ht ha hj
theorem d174_158 : decode cX12_yields 158 = .ok (.iinc 4 1, 3) := by decide +kernel
theorem s174_158 {d : Nat} {st : List Value} {σ : am_I} {ρ : am_R} {g : am_J} {τ : am_T} {Q : am_Q} {x0 x1 x2 x5 x6 : Value} {v : Int32} {u : Int32} : AW d 174 158 [x0, x1, x2, .int u, .int v, x5, x6] (st) σ ρ g τ Q = AW d 174 161 [x0, x1, x2, .int u, .int (v + 1), x5, x6] (st) σ ρ g τ Q := aw_lc m174 d174_158 rfl rfl rfl
theorem d174_161 : decode cX12_yields 161 = .ok (.goto (-35), 3) := by decide +kernel
theorem s174_161 {d : Nat} {st : List Value} {σ : am_I} {ρ : am_R} {g : am_J} {τ : am_T} {Q : am_Q} {x0 x1 x2 x3 x4 x5 x6 : Value} : AW d 174 161 [x0, x1, x2, x3, x4, x5, x6] (st) σ ρ g τ Q = AW d 174 126 [x0, x1, x2, x3, x4, x5, x6] (st) σ ρ g τ Q := aw_lc m174 d174_161 rfl rfl rfl
theorem d174_164 : decode cX12_yields 164 = .ok (.iconst 1, 1) := by decide +kernel
theorem s174_164 {d : Nat} {st : List Value} {σ : am_I} {ρ : am_R} {g : am_J} {τ : am_T} {Q : am_Q} {x0 x1 x2 x3 x4 x5 x6 : Value} : AW d 174 164 [x0, x1, x2, x3, x4, x5, x6] (st) σ ρ g τ Q = AW d 174 165 [x0, x1, x2, x3, x4, x5, x6] (.int 1 :: st) σ ρ g τ Q := aw_lc m174 d174_164 rfl rfl rfl
theorem d174_165 : decode cX12_yields 165 = .ok (.ireturn, 1) := by decide +kernel
theorem s174_165 {d : Nat} {σ : am_I} {ρ : am_R} {g : am_J} {τ : am_T} {Q : am_Q} {x0 x1 x2 x3 x4 x5 x6 : Value} {v : Int32} : AW d 174 165 [x0, x1, x2, x3, x4, x5, x6] ([.int v]) σ ρ g τ Q = Q (some (.int v)) σ ρ g τ := aw_ri m174 d174_165 rfl
theorem d175_0 : decode cX12_guards 0 = .ok (.aload_n 0, 1) := by decide +kernel
theorem s175_0 {d : Nat} {st : List Value} {σ : am_I} {ρ : am_R} {g : am_J} {τ : am_T} {Q : am_Q} {x1 x2 x3 : Value} {v : Nat} : AW d 175 0 [.ref v, x1, x2, x3] (st) σ ρ g τ Q = AW d 175 1 [.ref v, x1, x2, x3] (.ref v :: st) σ ρ g τ Q := aw_lc m175 d175_0 rfl rfl rfl
theorem d175_1 : decode cX12_guards 1 = .ok (.iconst 1, 1) := by decide +kernel
theorem s175_1 {d : Nat} {st : List Value} {σ : am_I} {ρ : am_R} {g : am_J} {τ : am_T} {Q : am_Q} {x0 x1 x2 x3 : Value} : AW d 175 1 [x0, x1, x2, x3] (st) σ ρ g τ Q = AW d 175 2 [x0, x1, x2, x3] (.int 1 :: st) σ ρ g τ Q := aw_lc m175 d175_1 rfl rfl rfl
theorem d175_2 : decode cX12_guards 2 = .ok (.iload_n 1, 1) := by decide +kernel
theorem s175_2 {d : Nat} {st : List Value} {σ : am_I} {ρ : am_R} {g : am_J} {τ : am_T} {Q : am_Q} {x0 x2 x3 : Value} {v : Int32} : AW d 175 2 [x0, .int v, x2, x3] (st) σ ρ g τ Q = AW d 175 3 [x0, .int v, x2, x3] (.int v :: st) σ ρ g τ Q := aw_lc m175 d175_2 rfl rfl rfl
theorem d175_3 : decode cX12_guards 3 = .ok (.invokevirtual 210, 3) := by decide +kernel
theorem s175_3 {d : Nat} {st : List Value} {σ : am_I} {ρ : am_R} {g : am_J} {τ : am_T} {Q : am_Q} {x0 x1 x2 x3 : Value} {p0 : Nat} {p1 : Int32} {p2 : Int32} (ht : τ.1 p0 = 12) (hs : st.length ≤ 4) : AW (d + 1) 175 3 [x0, x1, x2, x3] (.int p2 :: .int p1 :: .ref p0 :: st) σ ρ g τ Q = AW d 167 0 [.ref p0, .int p1, .int p2] [] σ ρ g τ (fun r9 σ ρ g τ => AW (d + 1) 175 6 [x0, x1, x2, x3] (r9.toList ++ st) σ ρ g τ Q) := aw_cv m175 d175_3 rfl m167 rfl rfl (by decide) en167 ok167 rfl ht hs
theorem d175_6 : decode cX12_guards 6 = .ok (.ifCond .eq 13, 3) := by decide +kernel
theorem s175_6 {d : Nat} {st : List Value} {σ : am_I} {ρ : am_R} {g : am_J} {τ : am_T} {Q : am_Q} {x0 x1 x2 x3 : Value} {v : Int32} : AW d 175 6 [x0, x1, x2, x3] (.int v :: st) σ ρ g τ Q = if v = 0 then AW d 175 19 [x0, x1, x2, x3] (st) σ ρ g τ Q else AW d 175 9 [x0, x1, x2, x3] (st) σ ρ g τ Q := aw_br m175 d175_6 rfl rfl rfl
theorem d175_9 : decode cX12_guards 9 = .ok (.iload_n 2, 1) := by decide +kernel
theorem s175_9 {d : Nat} {st : List Value} {σ : am_I} {ρ : am_R} {g : am_J} {τ : am_T} {Q : am_Q} {x0 x1 x3 : Value} {v : Int32} : AW d 175 9 [x0, x1, .int v, x3] (st) σ ρ g τ Q = AW d 175 10 [x0, x1, .int v, x3] (.int v :: st) σ ρ g τ Q := aw_lc m175 d175_9 rfl rfl rfl
theorem d175_10 : decode cX12_guards 10 = .ok (.iconst 0, 1) := by decide +kernel
theorem s175_10 {d : Nat} {st : List Value} {σ : am_I} {ρ : am_R} {g : am_J} {τ : am_T} {Q : am_Q} {x0 x1 x2 x3 : Value} : AW d 175 10 [x0, x1, x2, x3] (st) σ ρ g τ Q = AW d 175 11 [x0, x1, x2, x3] (.int 0 :: st) σ ρ g τ Q := aw_lc m175 d175_10 rfl rfl rfl
theorem d175_11 : decode cX12_guards 11 = .ok (.bipush 9, 2) := by decide +kernel
theorem s175_11 {d : Nat} {st : List Value} {σ : am_I} {ρ : am_R} {g : am_J} {τ : am_T} {Q : am_Q} {x0 x1 x2 x3 : Value} : AW d 175 11 [x0, x1, x2, x3] (st) σ ρ g τ Q = AW d 175 13 [x0, x1, x2, x3] (.int 9 :: st) σ ρ g τ Q := aw_lc m175 d175_11 rfl rfl rfl
theorem d175_13 : decode cX12_guards 13 = .ok (.invokestatic 194, 3) := by decide +kernel
theorem s175_13 {d : Nat} {st : List Value} {σ : am_I} {ρ : am_R} {g : am_J} {τ : am_T} {Q : am_Q} {x0 x1 x2 x3 : Value} {p0 : Int32} {p1 : Int32} {p2 : Int32} (hs : st.length ≤ 4) : AW (d + 1) 175 13 [x0, x1, x2, x3] (.int p2 :: .int p1 :: .int p0 :: st) σ ρ g τ Q = AW d 165 0 [.int p0, .int p1, .int p2] [] σ ρ g τ (fun r9 σ ρ g τ => AW (d + 1) 175 16 [x0, x1, x2, x3] (r9.toList ++ st) σ ρ g τ Q) := aw_cs m175 d175_13 rfl (by simp only [List.length_cons]; omega) rfl rfl en165 ok165 rfl hs
theorem d175_16 : decode cX12_guards 16 = .ok (.ifCond .ne 5, 3) := by decide +kernel
theorem s175_16 {d : Nat} {st : List Value} {σ : am_I} {ρ : am_R} {g : am_J} {τ : am_T} {Q : am_Q} {x0 x1 x2 x3 : Value} {v : Int32} : AW d 175 16 [x0, x1, x2, x3] (.int v :: st) σ ρ g τ Q = if ¬ v = 0 then AW d 175 21 [x0, x1, x2, x3] (st) σ ρ g τ Q else AW d 175 19 [x0, x1, x2, x3] (st) σ ρ g τ Q := aw_br m175 d175_16 rfl rfl rfl
theorem d175_19 : decode cX12_guards 19 = .ok (.iconst (-1), 1) := by decide +kernel
theorem s175_19 {d : Nat} {st : List Value} {σ : am_I} {ρ : am_R} {g : am_J} {τ : am_T} {Q : am_Q} {x0 x1 x2 x3 : Value} : AW d 175 19 [x0, x1, x2, x3] (st) σ ρ g τ Q = AW d 175 20 [x0, x1, x2, x3] (.int (-1) :: st) σ ρ g τ Q := aw_lc m175 d175_19 rfl rfl rfl
theorem d175_20 : decode cX12_guards 20 = .ok (.ireturn, 1) := by decide +kernel
theorem s175_20 {d : Nat} {σ : am_I} {ρ : am_R} {g : am_J} {τ : am_T} {Q : am_Q} {x0 x1 x2 x3 : Value} {v : Int32} : AW d 175 20 [x0, x1, x2, x3] ([.int v]) σ ρ g τ Q = Q (some (.int v)) σ ρ g τ := aw_ri m175 d175_20 rfl
theorem d175_21 : decode cX12_guards 21 = .ok (.aload_n 0, 1) := by decide +kernel
theorem s175_21 {d : Nat} {st : List Value} {σ : am_I} {ρ : am_R} {g : am_J} {τ : am_T} {Q : am_Q} {x1 x2 x3 : Value} {v : Nat} : AW d 175 21 [.ref v, x1, x2, x3] (st) σ ρ g τ Q = AW d 175 22 [.ref v, x1, x2, x3] (.ref v :: st) σ ρ g τ Q := aw_lc m175 d175_21 rfl rfl rfl
theorem d175_22 : decode cX12_guards 22 = .ok (.getfield 25, 3) := by decide +kernel
theorem s175_22 {d : Nat} {st : List Value} {σ : am_I} {ρ : am_R} {g : am_J} {τ : am_T} {Q : am_Q} {x0 x1 x2 x3 : Value} {a : Nat} (ht : τ.1 a = 12) : AW d 175 22 [x0, x1, x2, x3] (.ref a :: st) σ ρ g τ Q = AW d 175 25 [x0, x1, x2, x3] (va_rf (ρ a 5) :: st) σ ρ g τ Q := aw_gr m175 d175_22 rfl rfl rfl ht
theorem d175_25 : decode cX12_guards 25 = .ok (.iload_n 1, 1) := by decide +kernel
theorem s175_25 {d : Nat} {st : List Value} {σ : am_I} {ρ : am_R} {g : am_J} {τ : am_T} {Q : am_Q} {x0 x2 x3 : Value} {v : Int32} : AW d 175 25 [x0, .int v, x2, x3] (st) σ ρ g τ Q = AW d 175 26 [x0, .int v, x2, x3] (.int v :: st) σ ρ g τ Q := aw_lc m175 d175_25 rfl rfl rfl
theorem d175_26 : decode cX12_guards 26 = .ok (.iaload, 1) := by decide +kernel
theorem s175_26 {d : Nat} {st : List Value} {σ : am_I} {ρ : am_R} {g : am_J} {τ : am_T} {Q : am_Q} {x0 x1 x2 x3 : Value} {a : Nat} {j : Int32} (ht : τ.1 a = 15) (hj : am_inb j (τ.2.1 a) = true) : AW d 175 26 [x0, x1, x2, x3] (.int j :: .ref a :: st) σ ρ g τ Q = AW d 175 27 [x0, x1, x2, x3] (.int (σ a j.toNatClampNeg) :: st) σ ρ g τ Q := aw_ial m175 d175_26 rfl ht hj
theorem d175_27 : decode cX12_guards 27 = .ok (.istore_n 3, 1) := by decide +kernel
theorem s175_27 {d : Nat} {st : List Value} {σ : am_I} {ρ : am_R} {g : am_J} {τ : am_T} {Q : am_Q} {x0 x1 x3 : Value} {v : Int32} {u : Int32} : AW d 175 27 [x0, x1, .int u, x3] (.int v :: st) σ ρ g τ Q = AW d 175 28 [x0, x1, .int u, .int v] (st) σ ρ g τ Q := aw_lc m175 d175_27 rfl rfl rfl
theorem d175_28 : decode cX12_guards 28 = .ok (.aload_n 0, 1) := by decide +kernel
theorem s175_28 {d : Nat} {st : List Value} {σ : am_I} {ρ : am_R} {g : am_J} {τ : am_T} {Q : am_Q} {x1 x2 x3 : Value} {v : Nat} : AW d 175 28 [.ref v, x1, x2, x3] (st) σ ρ g τ Q = AW d 175 29 [.ref v, x1, x2, x3] (.ref v :: st) σ ρ g τ Q := aw_lc m175 d175_28 rfl rfl rfl
theorem d175_29 : decode cX12_guards 29 = .ok (.getfield 25, 3) := by decide +kernel
theorem s175_29 {d : Nat} {st : List Value} {σ : am_I} {ρ : am_R} {g : am_J} {τ : am_T} {Q : am_Q} {x0 x1 x2 x3 : Value} {a : Nat} (ht : τ.1 a = 12) : AW d 175 29 [x0, x1, x2, x3] (.ref a :: st) σ ρ g τ Q = AW d 175 32 [x0, x1, x2, x3] (va_rf (ρ a 5) :: st) σ ρ g τ Q := aw_gr m175 d175_29 rfl rfl rfl ht
theorem d175_32 : decode cX12_guards 32 = .ok (.iload_n 1, 1) := by decide +kernel
theorem s175_32 {d : Nat} {st : List Value} {σ : am_I} {ρ : am_R} {g : am_J} {τ : am_T} {Q : am_Q} {x0 x2 x3 : Value} {v : Int32} : AW d 175 32 [x0, .int v, x2, x3] (st) σ ρ g τ Q = AW d 175 33 [x0, .int v, x2, x3] (.int v :: st) σ ρ g τ Q := aw_lc m175 d175_32 rfl rfl rfl
theorem d175_33 : decode cX12_guards 33 = .ok (.iload_n 2, 1) := by decide +kernel
theorem s175_33 {d : Nat} {st : List Value} {σ : am_I} {ρ : am_R} {g : am_J} {τ : am_T} {Q : am_Q} {x0 x1 x3 : Value} {v : Int32} : AW d 175 33 [x0, x1, .int v, x3] (st) σ ρ g τ Q = AW d 175 34 [x0, x1, .int v, x3] (.int v :: st) σ ρ g τ Q := aw_lc m175 d175_33 rfl rfl rfl
theorem d175_34 : decode cX12_guards 34 = .ok (.iastore, 1) := by decide +kernel
theorem s175_34 {d : Nat} {st : List Value} {σ : am_I} {ρ : am_R} {g : am_J} {τ : am_T} {Q : am_Q} {x0 x1 x2 x3 : Value} {a : Nat} {j v : Int32} (ht : τ.1 a = 15) (ha : a < am_BG) (hj : am_inb j (τ.2.1 a) = true) : AW d 175 34 [x0, x1, x2, x3] (.int v :: .int j :: .ref a :: st) σ ρ g τ Q = AW d 175 35 [x0, x1, x2, x3] (st) (am_u σ a j.toNatClampNeg v) ρ g τ Q := aw_ias m175 d175_34 rfl ht ha hj
theorem d175_35 : decode cX12_guards 35 = .ok (.iload_n 3, 1) := by decide +kernel
theorem s175_35 {d : Nat} {st : List Value} {σ : am_I} {ρ : am_R} {g : am_J} {τ : am_T} {Q : am_Q} {x0 x1 x2 : Value} {v : Int32} : AW d 175 35 [x0, x1, x2, .int v] (st) σ ρ g τ Q = AW d 175 36 [x0, x1, x2, .int v] (.int v :: st) σ ρ g τ Q := aw_lc m175 d175_35 rfl rfl rfl
theorem d175_36 : decode cX12_guards 36 = .ok (.ireturn, 1) := by decide +kernel
theorem s175_36 {d : Nat} {σ : am_I} {ρ : am_R} {g : am_J} {τ : am_T} {Q : am_Q} {x0 x1 x2 x3 : Value} {v : Int32} : AW d 175 36 [x0, x1, x2, x3] ([.int v]) σ ρ g τ Q = Q (some (.int v)) σ ρ g τ := aw_ri m175 d175_36 rfl
theorem d176_0 : decode cX12_rate 0 = .ok (.iload_n 1, 1) := by decide +kernel
theorem s176_0 {d : Nat} {st : List Value} {σ : am_I} {ρ : am_R} {g : am_J} {τ : am_T} {Q : am_Q} {x0 x2 x3 : Value} {v : Int32} : AW d 176 0 [x0, .int v, x2, x3] (st) σ ρ g τ Q = AW d 176 1 [x0, .int v, x2, x3] (.int v :: st) σ ρ g τ Q := aw_lc m176 d176_0 rfl rfl rfl
theorem d176_1 : decode cX12_rate 1 = .ok (.iconst 0, 1) := by decide +kernel
theorem s176_1 {d : Nat} {st : List Value} {σ : am_I} {ρ : am_R} {g : am_J} {τ : am_T} {Q : am_Q} {x0 x1 x2 x3 : Value} : AW d 176 1 [x0, x1, x2, x3] (st) σ ρ g τ Q = AW d 176 2 [x0, x1, x2, x3] (.int 0 :: st) σ ρ g τ Q := aw_lc m176 d176_1 rfl rfl rfl
theorem d176_2 : decode cX12_rate 2 = .ok (.iconst 2, 1) := by decide +kernel
theorem s176_2 {d : Nat} {st : List Value} {σ : am_I} {ρ : am_R} {g : am_J} {τ : am_T} {Q : am_Q} {x0 x1 x2 x3 : Value} : AW d 176 2 [x0, x1, x2, x3] (st) σ ρ g τ Q = AW d 176 3 [x0, x1, x2, x3] (.int 2 :: st) σ ρ g τ Q := aw_lc m176 d176_2 rfl rfl rfl
theorem d176_3 : decode cX12_rate 3 = .ok (.invokestatic 194, 3) := by decide +kernel
theorem s176_3 {d : Nat} {st : List Value} {σ : am_I} {ρ : am_R} {g : am_J} {τ : am_T} {Q : am_Q} {x0 x1 x2 x3 : Value} {p0 : Int32} {p1 : Int32} {p2 : Int32} (hs : st.length ≤ 4) : AW (d + 1) 176 3 [x0, x1, x2, x3] (.int p2 :: .int p1 :: .int p0 :: st) σ ρ g τ Q = AW d 165 0 [.int p0, .int p1, .int p2] [] σ ρ g τ (fun r9 σ ρ g τ => AW (d + 1) 176 6 [x0, x1, x2, x3] (r9.toList ++ st) σ ρ g τ Q) := aw_cs m176 d176_3 rfl (by simp only [List.length_cons]; omega) rfl rfl en165 ok165 rfl hs
theorem d176_6 : decode cX12_rate 6 = .ok (.ifCond .eq 13, 3) := by decide +kernel
theorem s176_6 {d : Nat} {st : List Value} {σ : am_I} {ρ : am_R} {g : am_J} {τ : am_T} {Q : am_Q} {x0 x1 x2 x3 : Value} {v : Int32} : AW d 176 6 [x0, x1, x2, x3] (.int v :: st) σ ρ g τ Q = if v = 0 then AW d 176 19 [x0, x1, x2, x3] (st) σ ρ g τ Q else AW d 176 9 [x0, x1, x2, x3] (st) σ ρ g τ Q := aw_br m176 d176_6 rfl rfl rfl
theorem d176_9 : decode cX12_rate 9 = .ok (.iload_n 2, 1) := by decide +kernel
theorem s176_9 {d : Nat} {st : List Value} {σ : am_I} {ρ : am_R} {g : am_J} {τ : am_T} {Q : am_Q} {x0 x1 x3 : Value} {v : Int32} : AW d 176 9 [x0, x1, .int v, x3] (st) σ ρ g τ Q = AW d 176 10 [x0, x1, .int v, x3] (.int v :: st) σ ρ g τ Q := aw_lc m176 d176_9 rfl rfl rfl
theorem d176_10 : decode cX12_rate 10 = .ok (.iconst 0, 1) := by decide +kernel
theorem s176_10 {d : Nat} {st : List Value} {σ : am_I} {ρ : am_R} {g : am_J} {τ : am_T} {Q : am_Q} {x0 x1 x2 x3 : Value} : AW d 176 10 [x0, x1, x2, x3] (st) σ ρ g τ Q = AW d 176 11 [x0, x1, x2, x3] (.int 0 :: st) σ ρ g τ Q := aw_lc m176 d176_10 rfl rfl rfl
theorem d176_11 : decode cX12_rate 11 = .ok (.bipush 100, 2) := by decide +kernel
theorem s176_11 {d : Nat} {st : List Value} {σ : am_I} {ρ : am_R} {g : am_J} {τ : am_T} {Q : am_Q} {x0 x1 x2 x3 : Value} : AW d 176 11 [x0, x1, x2, x3] (st) σ ρ g τ Q = AW d 176 13 [x0, x1, x2, x3] (.int 100 :: st) σ ρ g τ Q := aw_lc m176 d176_11 rfl rfl rfl
theorem d176_13 : decode cX12_rate 13 = .ok (.invokestatic 194, 3) := by decide +kernel
theorem s176_13 {d : Nat} {st : List Value} {σ : am_I} {ρ : am_R} {g : am_J} {τ : am_T} {Q : am_Q} {x0 x1 x2 x3 : Value} {p0 : Int32} {p1 : Int32} {p2 : Int32} (hs : st.length ≤ 4) : AW (d + 1) 176 13 [x0, x1, x2, x3] (.int p2 :: .int p1 :: .int p0 :: st) σ ρ g τ Q = AW d 165 0 [.int p0, .int p1, .int p2] [] σ ρ g τ (fun r9 σ ρ g τ => AW (d + 1) 176 16 [x0, x1, x2, x3] (r9.toList ++ st) σ ρ g τ Q) := aw_cs m176 d176_13 rfl (by simp only [List.length_cons]; omega) rfl rfl en165 ok165 rfl hs
theorem d176_16 : decode cX12_rate 16 = .ok (.ifCond .ne 5, 3) := by decide +kernel
theorem s176_16 {d : Nat} {st : List Value} {σ : am_I} {ρ : am_R} {g : am_J} {τ : am_T} {Q : am_Q} {x0 x1 x2 x3 : Value} {v : Int32} : AW d 176 16 [x0, x1, x2, x3] (.int v :: st) σ ρ g τ Q = if ¬ v = 0 then AW d 176 21 [x0, x1, x2, x3] (st) σ ρ g τ Q else AW d 176 19 [x0, x1, x2, x3] (st) σ ρ g τ Q := aw_br m176 d176_16 rfl rfl rfl
theorem d176_19 : decode cX12_rate 19 = .ok (.iconst (-1), 1) := by decide +kernel
theorem s176_19 {d : Nat} {st : List Value} {σ : am_I} {ρ : am_R} {g : am_J} {τ : am_T} {Q : am_Q} {x0 x1 x2 x3 : Value} : AW d 176 19 [x0, x1, x2, x3] (st) σ ρ g τ Q = AW d 176 20 [x0, x1, x2, x3] (.int (-1) :: st) σ ρ g τ Q := aw_lc m176 d176_19 rfl rfl rfl
theorem d176_20 : decode cX12_rate 20 = .ok (.ireturn, 1) := by decide +kernel
theorem s176_20 {d : Nat} {σ : am_I} {ρ : am_R} {g : am_J} {τ : am_T} {Q : am_Q} {x0 x1 x2 x3 : Value} {v : Int32} : AW d 176 20 [x0, x1, x2, x3] ([.int v]) σ ρ g τ Q = Q (some (.int v)) σ ρ g τ := aw_ri m176 d176_20 rfl
theorem d176_21 : decode cX12_rate 21 = .ok (.aload_n 0, 1) := by decide +kernel
theorem s176_21 {d : Nat} {st : List Value} {σ : am_I} {ρ : am_R} {g : am_J} {τ : am_T} {Q : am_Q} {x1 x2 x3 : Value} {v : Nat} : AW d 176 21 [.ref v, x1, x2, x3] (st) σ ρ g τ Q = AW d 176 22 [.ref v, x1, x2, x3] (.ref v :: st) σ ρ g τ Q := aw_lc m176 d176_21 rfl rfl rfl
theorem d176_22 : decode cX12_rate 22 = .ok (.getfield 13, 3) := by decide +kernel
theorem s176_22 {d : Nat} {st : List Value} {σ : am_I} {ρ : am_R} {g : am_J} {τ : am_T} {Q : am_Q} {x0 x1 x2 x3 : Value} {a : Nat} (ht : τ.1 a = 12) : AW d 176 22 [x0, x1, x2, x3] (.ref a :: st) σ ρ g τ Q = AW d 176 25 [x0, x1, x2, x3] (va_rf (ρ a 1) :: st) σ ρ g τ Q := aw_gr m176 d176_22 rfl rfl rfl ht
theorem d176_25 : decode cX12_rate 25 = .ok (.iload_n 1, 1) := by decide +kernel
theorem s176_25 {d : Nat} {st : List Value} {σ : am_I} {ρ : am_R} {g : am_J} {τ : am_T} {Q : am_Q} {x0 x2 x3 : Value} {v : Int32} : AW d 176 25 [x0, .int v, x2, x3] (st) σ ρ g τ Q = AW d 176 26 [x0, .int v, x2, x3] (.int v :: st) σ ρ g τ Q := aw_lc m176 d176_25 rfl rfl rfl
theorem d176_26 : decode cX12_rate 26 = .ok (.iaload, 1) := by decide +kernel
theorem s176_26 {d : Nat} {st : List Value} {σ : am_I} {ρ : am_R} {g : am_J} {τ : am_T} {Q : am_Q} {x0 x1 x2 x3 : Value} {a : Nat} {j : Int32} (ht : τ.1 a = 15) (hj : am_inb j (τ.2.1 a) = true) : AW d 176 26 [x0, x1, x2, x3] (.int j :: .ref a :: st) σ ρ g τ Q = AW d 176 27 [x0, x1, x2, x3] (.int (σ a j.toNatClampNeg) :: st) σ ρ g τ Q := aw_ial m176 d176_26 rfl ht hj
theorem d176_27 : decode cX12_rate 27 = .ok (.istore_n 3, 1) := by decide +kernel
theorem s176_27 {d : Nat} {st : List Value} {σ : am_I} {ρ : am_R} {g : am_J} {τ : am_T} {Q : am_Q} {x0 x1 x3 : Value} {v : Int32} {u : Int32} : AW d 176 27 [x0, x1, .int u, x3] (.int v :: st) σ ρ g τ Q = AW d 176 28 [x0, x1, .int u, .int v] (st) σ ρ g τ Q := aw_lc m176 d176_27 rfl rfl rfl
theorem d176_28 : decode cX12_rate 28 = .ok (.aload_n 0, 1) := by decide +kernel
theorem s176_28 {d : Nat} {st : List Value} {σ : am_I} {ρ : am_R} {g : am_J} {τ : am_T} {Q : am_Q} {x1 x2 x3 : Value} {v : Nat} : AW d 176 28 [.ref v, x1, x2, x3] (st) σ ρ g τ Q = AW d 176 29 [.ref v, x1, x2, x3] (.ref v :: st) σ ρ g τ Q := aw_lc m176 d176_28 rfl rfl rfl
theorem d176_29 : decode cX12_rate 29 = .ok (.getfield 13, 3) := by decide +kernel
theorem s176_29 {d : Nat} {st : List Value} {σ : am_I} {ρ : am_R} {g : am_J} {τ : am_T} {Q : am_Q} {x0 x1 x2 x3 : Value} {a : Nat} (ht : τ.1 a = 12) : AW d 176 29 [x0, x1, x2, x3] (.ref a :: st) σ ρ g τ Q = AW d 176 32 [x0, x1, x2, x3] (va_rf (ρ a 1) :: st) σ ρ g τ Q := aw_gr m176 d176_29 rfl rfl rfl ht
theorem d176_32 : decode cX12_rate 32 = .ok (.iload_n 1, 1) := by decide +kernel
theorem s176_32 {d : Nat} {st : List Value} {σ : am_I} {ρ : am_R} {g : am_J} {τ : am_T} {Q : am_Q} {x0 x2 x3 : Value} {v : Int32} : AW d 176 32 [x0, .int v, x2, x3] (st) σ ρ g τ Q = AW d 176 33 [x0, .int v, x2, x3] (.int v :: st) σ ρ g τ Q := aw_lc m176 d176_32 rfl rfl rfl
theorem d176_33 : decode cX12_rate 33 = .ok (.iload_n 2, 1) := by decide +kernel
theorem s176_33 {d : Nat} {st : List Value} {σ : am_I} {ρ : am_R} {g : am_J} {τ : am_T} {Q : am_Q} {x0 x1 x3 : Value} {v : Int32} : AW d 176 33 [x0, x1, .int v, x3] (st) σ ρ g τ Q = AW d 176 34 [x0, x1, .int v, x3] (.int v :: st) σ ρ g τ Q := aw_lc m176 d176_33 rfl rfl rfl
theorem d176_34 : decode cX12_rate 34 = .ok (.iastore, 1) := by decide +kernel
theorem s176_34 {d : Nat} {st : List Value} {σ : am_I} {ρ : am_R} {g : am_J} {τ : am_T} {Q : am_Q} {x0 x1 x2 x3 : Value} {a : Nat} {j v : Int32} (ht : τ.1 a = 15) (ha : a < am_BG) (hj : am_inb j (τ.2.1 a) = true) : AW d 176 34 [x0, x1, x2, x3] (.int v :: .int j :: .ref a :: st) σ ρ g τ Q = AW d 176 35 [x0, x1, x2, x3] (st) (am_u σ a j.toNatClampNeg v) ρ g τ Q := aw_ias m176 d176_34 rfl ht ha hj
theorem d176_35 : decode cX12_rate 35 = .ok (.iload_n 3, 1) := by decide +kernel
theorem s176_35 {d : Nat} {st : List Value} {σ : am_I} {ρ : am_R} {g : am_J} {τ : am_T} {Q : am_Q} {x0 x1 x2 : Value} {v : Int32} : AW d 176 35 [x0, x1, x2, .int v] (st) σ ρ g τ Q = AW d 176 36 [x0, x1, x2, .int v] (.int v :: st) σ ρ g τ Q := aw_lc m176 d176_35 rfl rfl rfl
theorem d176_36 : decode cX12_rate 36 = .ok (.ireturn, 1) := by decide +kernel
theorem s176_36 {d : Nat} {σ : am_I} {ρ : am_R} {g : am_J} {τ : am_T} {Q : am_Q} {x0 x1 x2 x3 : Value} {v : Int32} : AW d 176 36 [x0, x1, x2, x3] ([.int v]) σ ρ g τ Q = Q (some (.int v)) σ ρ g τ := aw_ri m176 d176_36 rfl
theorem d177_0 : decode cX12_harvest 0 = .ok (.iload_n 1, 1) := by decide +kernel
theorem s177_0 {d : Nat} {st : List Value} {σ : am_I} {ρ : am_R} {g : am_J} {τ : am_T} {Q : am_Q} {x0 x2 x3 : Value} {v : Int32} : AW d 177 0 [x0, .int v, x2, x3] (st) σ ρ g τ Q = AW d 177 1 [x0, .int v, x2, x3] (.int v :: st) σ ρ g τ Q := aw_lc m177 d177_0 rfl rfl rfl
theorem d177_1 : decode cX12_harvest 1 = .ok (.iconst 0, 1) := by decide +kernel
theorem s177_1 {d : Nat} {st : List Value} {σ : am_I} {ρ : am_R} {g : am_J} {τ : am_T} {Q : am_Q} {x0 x1 x2 x3 : Value} : AW d 177 1 [x0, x1, x2, x3] (st) σ ρ g τ Q = AW d 177 2 [x0, x1, x2, x3] (.int 0 :: st) σ ρ g τ Q := aw_lc m177 d177_1 rfl rfl rfl
theorem d177_2 : decode cX12_harvest 2 = .ok (.bipush 11, 2) := by decide +kernel
theorem s177_2 {d : Nat} {st : List Value} {σ : am_I} {ρ : am_R} {g : am_J} {τ : am_T} {Q : am_Q} {x0 x1 x2 x3 : Value} : AW d 177 2 [x0, x1, x2, x3] (st) σ ρ g τ Q = AW d 177 4 [x0, x1, x2, x3] (.int 11 :: st) σ ρ g τ Q := aw_lc m177 d177_2 rfl rfl rfl
theorem d177_4 : decode cX12_harvest 4 = .ok (.invokestatic 194, 3) := by decide +kernel
theorem s177_4 {d : Nat} {st : List Value} {σ : am_I} {ρ : am_R} {g : am_J} {τ : am_T} {Q : am_Q} {x0 x1 x2 x3 : Value} {p0 : Int32} {p1 : Int32} {p2 : Int32} (hs : st.length ≤ 4) : AW (d + 1) 177 4 [x0, x1, x2, x3] (.int p2 :: .int p1 :: .int p0 :: st) σ ρ g τ Q = AW d 165 0 [.int p0, .int p1, .int p2] [] σ ρ g τ (fun r9 σ ρ g τ => AW (d + 1) 177 7 [x0, x1, x2, x3] (r9.toList ++ st) σ ρ g τ Q) := aw_cs m177 d177_4 rfl (by simp only [List.length_cons]; omega) rfl rfl en165 ok165 rfl hs
theorem d177_7 : decode cX12_harvest 7 = .ok (.ifCond .eq 14, 3) := by decide +kernel
theorem s177_7 {d : Nat} {st : List Value} {σ : am_I} {ρ : am_R} {g : am_J} {τ : am_T} {Q : am_Q} {x0 x1 x2 x3 : Value} {v : Int32} : AW d 177 7 [x0, x1, x2, x3] (.int v :: st) σ ρ g τ Q = if v = 0 then AW d 177 21 [x0, x1, x2, x3] (st) σ ρ g τ Q else AW d 177 10 [x0, x1, x2, x3] (st) σ ρ g τ Q := aw_br m177 d177_7 rfl rfl rfl
theorem d177_10 : decode cX12_harvest 10 = .ok (.iload_n 2, 1) := by decide +kernel
theorem s177_10 {d : Nat} {st : List Value} {σ : am_I} {ρ : am_R} {g : am_J} {τ : am_T} {Q : am_Q} {x0 x1 x3 : Value} {v : Int32} : AW d 177 10 [x0, x1, .int v, x3] (st) σ ρ g τ Q = AW d 177 11 [x0, x1, .int v, x3] (.int v :: st) σ ρ g τ Q := aw_lc m177 d177_10 rfl rfl rfl
theorem d177_11 : decode cX12_harvest 11 = .ok (.iconst 0, 1) := by decide +kernel
theorem s177_11 {d : Nat} {st : List Value} {σ : am_I} {ρ : am_R} {g : am_J} {τ : am_T} {Q : am_Q} {x0 x1 x2 x3 : Value} : AW d 177 11 [x0, x1, x2, x3] (st) σ ρ g τ Q = AW d 177 12 [x0, x1, x2, x3] (.int 0 :: st) σ ρ g τ Q := aw_lc m177 d177_11 rfl rfl rfl
theorem d177_12 : decode cX12_harvest 12 = .ok (.sipush 200, 3) := by decide +kernel
theorem s177_12 {d : Nat} {st : List Value} {σ : am_I} {ρ : am_R} {g : am_J} {τ : am_T} {Q : am_Q} {x0 x1 x2 x3 : Value} : AW d 177 12 [x0, x1, x2, x3] (st) σ ρ g τ Q = AW d 177 15 [x0, x1, x2, x3] (.int 200 :: st) σ ρ g τ Q := aw_lc m177 d177_12 rfl rfl rfl
theorem d177_15 : decode cX12_harvest 15 = .ok (.invokestatic 194, 3) := by decide +kernel
theorem s177_15 {d : Nat} {st : List Value} {σ : am_I} {ρ : am_R} {g : am_J} {τ : am_T} {Q : am_Q} {x0 x1 x2 x3 : Value} {p0 : Int32} {p1 : Int32} {p2 : Int32} (hs : st.length ≤ 4) : AW (d + 1) 177 15 [x0, x1, x2, x3] (.int p2 :: .int p1 :: .int p0 :: st) σ ρ g τ Q = AW d 165 0 [.int p0, .int p1, .int p2] [] σ ρ g τ (fun r9 σ ρ g τ => AW (d + 1) 177 18 [x0, x1, x2, x3] (r9.toList ++ st) σ ρ g τ Q) := aw_cs m177 d177_15 rfl (by simp only [List.length_cons]; omega) rfl rfl en165 ok165 rfl hs
theorem d177_18 : decode cX12_harvest 18 = .ok (.ifCond .ne 5, 3) := by decide +kernel
theorem s177_18 {d : Nat} {st : List Value} {σ : am_I} {ρ : am_R} {g : am_J} {τ : am_T} {Q : am_Q} {x0 x1 x2 x3 : Value} {v : Int32} : AW d 177 18 [x0, x1, x2, x3] (.int v :: st) σ ρ g τ Q = if ¬ v = 0 then AW d 177 23 [x0, x1, x2, x3] (st) σ ρ g τ Q else AW d 177 21 [x0, x1, x2, x3] (st) σ ρ g τ Q := aw_br m177 d177_18 rfl rfl rfl
theorem d177_21 : decode cX12_harvest 21 = .ok (.iconst (-1), 1) := by decide +kernel
theorem s177_21 {d : Nat} {st : List Value} {σ : am_I} {ρ : am_R} {g : am_J} {τ : am_T} {Q : am_Q} {x0 x1 x2 x3 : Value} : AW d 177 21 [x0, x1, x2, x3] (st) σ ρ g τ Q = AW d 177 22 [x0, x1, x2, x3] (.int (-1) :: st) σ ρ g τ Q := aw_lc m177 d177_21 rfl rfl rfl
theorem d177_22 : decode cX12_harvest 22 = .ok (.ireturn, 1) := by decide +kernel
theorem s177_22 {d : Nat} {σ : am_I} {ρ : am_R} {g : am_J} {τ : am_T} {Q : am_Q} {x0 x1 x2 x3 : Value} {v : Int32} : AW d 177 22 [x0, x1, x2, x3] ([.int v]) σ ρ g τ Q = Q (some (.int v)) σ ρ g τ := aw_ri m177 d177_22 rfl
theorem d177_23 : decode cX12_harvest 23 = .ok (.aload_n 0, 1) := by decide +kernel
theorem s177_23 {d : Nat} {st : List Value} {σ : am_I} {ρ : am_R} {g : am_J} {τ : am_T} {Q : am_Q} {x1 x2 x3 : Value} {v : Nat} : AW d 177 23 [.ref v, x1, x2, x3] (st) σ ρ g τ Q = AW d 177 24 [.ref v, x1, x2, x3] (.ref v :: st) σ ρ g τ Q := aw_lc m177 d177_23 rfl rfl rfl
theorem d177_24 : decode cX12_harvest 24 = .ok (.getfield 16, 3) := by decide +kernel
theorem s177_24 {d : Nat} {st : List Value} {σ : am_I} {ρ : am_R} {g : am_J} {τ : am_T} {Q : am_Q} {x0 x1 x2 x3 : Value} {a : Nat} (ht : τ.1 a = 12) : AW d 177 24 [x0, x1, x2, x3] (.ref a :: st) σ ρ g τ Q = AW d 177 27 [x0, x1, x2, x3] (va_rf (ρ a 2) :: st) σ ρ g τ Q := aw_gr m177 d177_24 rfl rfl rfl ht
theorem d177_27 : decode cX12_harvest 27 = .ok (.iload_n 1, 1) := by decide +kernel
theorem s177_27 {d : Nat} {st : List Value} {σ : am_I} {ρ : am_R} {g : am_J} {τ : am_T} {Q : am_Q} {x0 x2 x3 : Value} {v : Int32} : AW d 177 27 [x0, .int v, x2, x3] (st) σ ρ g τ Q = AW d 177 28 [x0, .int v, x2, x3] (.int v :: st) σ ρ g τ Q := aw_lc m177 d177_27 rfl rfl rfl
theorem d177_28 : decode cX12_harvest 28 = .ok (.iaload, 1) := by decide +kernel
theorem s177_28 {d : Nat} {st : List Value} {σ : am_I} {ρ : am_R} {g : am_J} {τ : am_T} {Q : am_Q} {x0 x1 x2 x3 : Value} {a : Nat} {j : Int32} (ht : τ.1 a = 15) (hj : am_inb j (τ.2.1 a) = true) : AW d 177 28 [x0, x1, x2, x3] (.int j :: .ref a :: st) σ ρ g τ Q = AW d 177 29 [x0, x1, x2, x3] (.int (σ a j.toNatClampNeg) :: st) σ ρ g τ Q := aw_ial m177 d177_28 rfl ht hj
theorem d177_29 : decode cX12_harvest 29 = .ok (.istore_n 3, 1) := by decide +kernel
theorem s177_29 {d : Nat} {st : List Value} {σ : am_I} {ρ : am_R} {g : am_J} {τ : am_T} {Q : am_Q} {x0 x1 x3 : Value} {v : Int32} {u : Int32} : AW d 177 29 [x0, x1, .int u, x3] (.int v :: st) σ ρ g τ Q = AW d 177 30 [x0, x1, .int u, .int v] (st) σ ρ g τ Q := aw_lc m177 d177_29 rfl rfl rfl
theorem d177_30 : decode cX12_harvest 30 = .ok (.aload_n 0, 1) := by decide +kernel
theorem s177_30 {d : Nat} {st : List Value} {σ : am_I} {ρ : am_R} {g : am_J} {τ : am_T} {Q : am_Q} {x1 x2 x3 : Value} {v : Nat} : AW d 177 30 [.ref v, x1, x2, x3] (st) σ ρ g τ Q = AW d 177 31 [.ref v, x1, x2, x3] (.ref v :: st) σ ρ g τ Q := aw_lc m177 d177_30 rfl rfl rfl
theorem d177_31 : decode cX12_harvest 31 = .ok (.getfield 16, 3) := by decide +kernel
theorem s177_31 {d : Nat} {st : List Value} {σ : am_I} {ρ : am_R} {g : am_J} {τ : am_T} {Q : am_Q} {x0 x1 x2 x3 : Value} {a : Nat} (ht : τ.1 a = 12) : AW d 177 31 [x0, x1, x2, x3] (.ref a :: st) σ ρ g τ Q = AW d 177 34 [x0, x1, x2, x3] (va_rf (ρ a 2) :: st) σ ρ g τ Q := aw_gr m177 d177_31 rfl rfl rfl ht
theorem d177_34 : decode cX12_harvest 34 = .ok (.iload_n 1, 1) := by decide +kernel
theorem s177_34 {d : Nat} {st : List Value} {σ : am_I} {ρ : am_R} {g : am_J} {τ : am_T} {Q : am_Q} {x0 x2 x3 : Value} {v : Int32} : AW d 177 34 [x0, .int v, x2, x3] (st) σ ρ g τ Q = AW d 177 35 [x0, .int v, x2, x3] (.int v :: st) σ ρ g τ Q := aw_lc m177 d177_34 rfl rfl rfl
theorem d177_35 : decode cX12_harvest 35 = .ok (.iload_n 2, 1) := by decide +kernel
theorem s177_35 {d : Nat} {st : List Value} {σ : am_I} {ρ : am_R} {g : am_J} {τ : am_T} {Q : am_Q} {x0 x1 x3 : Value} {v : Int32} : AW d 177 35 [x0, x1, .int v, x3] (st) σ ρ g τ Q = AW d 177 36 [x0, x1, .int v, x3] (.int v :: st) σ ρ g τ Q := aw_lc m177 d177_35 rfl rfl rfl
theorem d177_36 : decode cX12_harvest 36 = .ok (.iastore, 1) := by decide +kernel
theorem s177_36 {d : Nat} {st : List Value} {σ : am_I} {ρ : am_R} {g : am_J} {τ : am_T} {Q : am_Q} {x0 x1 x2 x3 : Value} {a : Nat} {j v : Int32} (ht : τ.1 a = 15) (ha : a < am_BG) (hj : am_inb j (τ.2.1 a) = true) : AW d 177 36 [x0, x1, x2, x3] (.int v :: .int j :: .ref a :: st) σ ρ g τ Q = AW d 177 37 [x0, x1, x2, x3] (st) (am_u σ a j.toNatClampNeg v) ρ g τ Q := aw_ias m177 d177_36 rfl ht ha hj
theorem d177_37 : decode cX12_harvest 37 = .ok (.iload_n 3, 1) := by decide +kernel
theorem s177_37 {d : Nat} {st : List Value} {σ : am_I} {ρ : am_R} {g : am_J} {τ : am_T} {Q : am_Q} {x0 x1 x2 : Value} {v : Int32} : AW d 177 37 [x0, x1, x2, .int v] (st) σ ρ g τ Q = AW d 177 38 [x0, x1, x2, .int v] (.int v :: st) σ ρ g τ Q := aw_lc m177 d177_37 rfl rfl rfl
theorem d177_38 : decode cX12_harvest 38 = .ok (.ireturn, 1) := by decide +kernel
theorem s177_38 {d : Nat} {σ : am_I} {ρ : am_R} {g : am_J} {τ : am_T} {Q : am_Q} {x0 x1 x2 x3 : Value} {v : Int32} : AW d 177 38 [x0, x1, x2, x3] ([.int v]) σ ρ g τ Q = Q (some (.int v)) σ ρ g τ := aw_ri m177 d177_38 rfl
theorem d178_0 : decode cX12_gather 0 = .ok (.aload_n 0, 1) := by decide +kernel
theorem s178_0 {d : Nat} {st : List Value} {σ : am_I} {ρ : am_R} {g : am_J} {τ : am_T} {Q : am_Q} {x1 x2 x3 x4 x5 x6 : Value} {v : Nat} : AW d 178 0 [.ref v, x1, x2, x3, x4, x5, x6] (st) σ ρ g τ Q = AW d 178 1 [.ref v, x1, x2, x3, x4, x5, x6] (.ref v :: st) σ ρ g τ Q := aw_lc m178 d178_0 rfl rfl rfl
theorem d178_1 : decode cX12_gather 1 = .ok (.iconst 1, 1) := by decide +kernel
theorem s178_1 {d : Nat} {st : List Value} {σ : am_I} {ρ : am_R} {g : am_J} {τ : am_T} {Q : am_Q} {x0 x1 x2 x3 x4 x5 x6 : Value} : AW d 178 1 [x0, x1, x2, x3, x4, x5, x6] (st) σ ρ g τ Q = AW d 178 2 [x0, x1, x2, x3, x4, x5, x6] (.int 1 :: st) σ ρ g τ Q := aw_lc m178 d178_1 rfl rfl rfl
theorem d178_2 : decode cX12_gather 2 = .ok (.iload_n 1, 1) := by decide +kernel
theorem s178_2 {d : Nat} {st : List Value} {σ : am_I} {ρ : am_R} {g : am_J} {τ : am_T} {Q : am_Q} {x0 x2 x3 x4 x5 x6 : Value} {v : Int32} : AW d 178 2 [x0, .int v, x2, x3, x4, x5, x6] (st) σ ρ g τ Q = AW d 178 3 [x0, .int v, x2, x3, x4, x5, x6] (.int v :: st) σ ρ g τ Q := aw_lc m178 d178_2 rfl rfl rfl
theorem d178_3 : decode cX12_gather 3 = .ok (.invokevirtual 210, 3) := by decide +kernel
theorem s178_3 {d : Nat} {st : List Value} {σ : am_I} {ρ : am_R} {g : am_J} {τ : am_T} {Q : am_Q} {x0 x1 x2 x3 x4 x5 x6 : Value} {p0 : Nat} {p1 : Int32} {p2 : Int32} (ht : τ.1 p0 = 12) (hs : st.length ≤ 4) : AW (d + 1) 178 3 [x0, x1, x2, x3, x4, x5, x6] (.int p2 :: .int p1 :: .ref p0 :: st) σ ρ g τ Q = AW d 167 0 [.ref p0, .int p1, .int p2] [] σ ρ g τ (fun r9 σ ρ g τ => AW (d + 1) 178 6 [x0, x1, x2, x3, x4, x5, x6] (r9.toList ++ st) σ ρ g τ Q) := aw_cv m178 d178_3 rfl m167 rfl rfl (by decide) en167 ok167 rfl ht hs
theorem d178_6 : decode cX12_gather 6 = .ok (.ifCond .eq 29, 3) := by decide +kernel
theorem s178_6 {d : Nat} {st : List Value} {σ : am_I} {ρ : am_R} {g : am_J} {τ : am_T} {Q : am_Q} {x0 x1 x2 x3 x4 x5 x6 : Value} {v : Int32} : AW d 178 6 [x0, x1, x2, x3, x4, x5, x6] (.int v :: st) σ ρ g τ Q = if v = 0 then AW d 178 35 [x0, x1, x2, x3, x4, x5, x6] (st) σ ρ g τ Q else AW d 178 9 [x0, x1, x2, x3, x4, x5, x6] (st) σ ρ g τ Q := aw_br m178 d178_6 rfl rfl rfl
theorem d178_9 : decode cX12_gather 9 = .ok (.iload_n 2, 1) := by decide +kernel
theorem s178_9 {d : Nat} {st : List Value} {σ : am_I} {ρ : am_R} {g : am_J} {τ : am_T} {Q : am_Q} {x0 x1 x3 x4 x5 x6 : Value} {v : Int32} : AW d 178 9 [x0, x1, .int v, x3, x4, x5, x6] (st) σ ρ g τ Q = AW d 178 10 [x0, x1, .int v, x3, x4, x5, x6] (.int v :: st) σ ρ g τ Q := aw_lc m178 d178_9 rfl rfl rfl
theorem d178_10 : decode cX12_gather 10 = .ok (.iconst 0, 1) := by decide +kernel
theorem s178_10 {d : Nat} {st : List Value} {σ : am_I} {ρ : am_R} {g : am_J} {τ : am_T} {Q : am_Q} {x0 x1 x2 x3 x4 x5 x6 : Value} : AW d 178 10 [x0, x1, x2, x3, x4, x5, x6] (st) σ ρ g τ Q = AW d 178 11 [x0, x1, x2, x3, x4, x5, x6] (.int 0 :: st) σ ρ g τ Q := aw_lc m178 d178_10 rfl rfl rfl
theorem d178_11 : decode cX12_gather 11 = .ok (.iconst 2, 1) := by decide +kernel
theorem s178_11 {d : Nat} {st : List Value} {σ : am_I} {ρ : am_R} {g : am_J} {τ : am_T} {Q : am_Q} {x0 x1 x2 x3 x4 x5 x6 : Value} : AW d 178 11 [x0, x1, x2, x3, x4, x5, x6] (st) σ ρ g τ Q = AW d 178 12 [x0, x1, x2, x3, x4, x5, x6] (.int 2 :: st) σ ρ g τ Q := aw_lc m178 d178_11 rfl rfl rfl
theorem d178_12 : decode cX12_gather 12 = .ok (.invokestatic 194, 3) := by decide +kernel
theorem s178_12 {d : Nat} {st : List Value} {σ : am_I} {ρ : am_R} {g : am_J} {τ : am_T} {Q : am_Q} {x0 x1 x2 x3 x4 x5 x6 : Value} {p0 : Int32} {p1 : Int32} {p2 : Int32} (hs : st.length ≤ 4) : AW (d + 1) 178 12 [x0, x1, x2, x3, x4, x5, x6] (.int p2 :: .int p1 :: .int p0 :: st) σ ρ g τ Q = AW d 165 0 [.int p0, .int p1, .int p2] [] σ ρ g τ (fun r9 σ ρ g τ => AW (d + 1) 178 15 [x0, x1, x2, x3, x4, x5, x6] (r9.toList ++ st) σ ρ g τ Q) := aw_cs m178 d178_12 rfl (by simp only [List.length_cons]; omega) rfl rfl en165 ok165 rfl hs
theorem d178_15 : decode cX12_gather 15 = .ok (.ifCond .eq 20, 3) := by decide +kernel
theorem s178_15 {d : Nat} {st : List Value} {σ : am_I} {ρ : am_R} {g : am_J} {τ : am_T} {Q : am_Q} {x0 x1 x2 x3 x4 x5 x6 : Value} {v : Int32} : AW d 178 15 [x0, x1, x2, x3, x4, x5, x6] (.int v :: st) σ ρ g τ Q = if v = 0 then AW d 178 35 [x0, x1, x2, x3, x4, x5, x6] (st) σ ρ g τ Q else AW d 178 18 [x0, x1, x2, x3, x4, x5, x6] (st) σ ρ g τ Q := aw_br m178 d178_15 rfl rfl rfl
theorem d178_18 : decode cX12_gather 18 = .ok (.iload_n 3, 1) := by decide +kernel
theorem s178_18 {d : Nat} {st : List Value} {σ : am_I} {ρ : am_R} {g : am_J} {τ : am_T} {Q : am_Q} {x0 x1 x2 x4 x5 x6 : Value} {v : Int32} : AW d 178 18 [x0, x1, x2, .int v, x4, x5, x6] (st) σ ρ g τ Q = AW d 178 19 [x0, x1, x2, .int v, x4, x5, x6] (.int v :: st) σ ρ g τ Q := aw_lc m178 d178_18 rfl rfl rfl
theorem d178_19 : decode cX12_gather 19 = .ok (.invokestatic 216, 3) := by decide +kernel
theorem s178_19 {d : Nat} {st : List Value} {σ : am_I} {ρ : am_R} {g : am_J} {τ : am_T} {Q : am_Q} {x0 x1 x2 x3 x4 x5 x6 : Value} {p0 : Int32} (hs : st.length ≤ 4) : AW (d + 1) 178 19 [x0, x1, x2, x3, x4, x5, x6] (.int p0 :: st) σ ρ g τ Q = AW d 166 0 [.int p0] [] σ ρ g τ (fun r9 σ ρ g τ => AW (d + 1) 178 22 [x0, x1, x2, x3, x4, x5, x6] (r9.toList ++ st) σ ρ g τ Q) := aw_cs m178 d178_19 rfl (by simp only [List.length_cons]; omega) rfl rfl en166 ok166 rfl hs
theorem d178_22 : decode cX12_gather 22 = .ok (.ifCond .eq 13, 3) := by decide +kernel
theorem s178_22 {d : Nat} {st : List Value} {σ : am_I} {ρ : am_R} {g : am_J} {τ : am_T} {Q : am_Q} {x0 x1 x2 x3 x4 x5 x6 : Value} {v : Int32} : AW d 178 22 [x0, x1, x2, x3, x4, x5, x6] (.int v :: st) σ ρ g τ Q = if v = 0 then AW d 178 35 [x0, x1, x2, x3, x4, x5, x6] (st) σ ρ g τ Q else AW d 178 25 [x0, x1, x2, x3, x4, x5, x6] (st) σ ρ g τ Q := aw_br m178 d178_22 rfl rfl rfl
theorem d178_25 : decode cX12_gather 25 = .ok (.iload 4, 2) := by decide +kernel
theorem s178_25 {d : Nat} {st : List Value} {σ : am_I} {ρ : am_R} {g : am_J} {τ : am_T} {Q : am_Q} {x0 x1 x2 x3 x5 x6 : Value} {v : Int32} : AW d 178 25 [x0, x1, x2, x3, .int v, x5, x6] (st) σ ρ g τ Q = AW d 178 27 [x0, x1, x2, x3, .int v, x5, x6] (.int v :: st) σ ρ g τ Q := aw_lc m178 d178_25 rfl rfl rfl
theorem d178_27 : decode cX12_gather 27 = .ok (.iconst 0, 1) := by decide +kernel
theorem s178_27 {d : Nat} {st : List Value} {σ : am_I} {ρ : am_R} {g : am_J} {τ : am_T} {Q : am_Q} {x0 x1 x2 x3 x4 x5 x6 : Value} : AW d 178 27 [x0, x1, x2, x3, x4, x5, x6] (st) σ ρ g τ Q = AW d 178 28 [x0, x1, x2, x3, x4, x5, x6] (.int 0 :: st) σ ρ g τ Q := aw_lc m178 d178_27 rfl rfl rfl
theorem d178_28 : decode cX12_gather 28 = .ok (.iconst 2, 1) := by decide +kernel
theorem s178_28 {d : Nat} {st : List Value} {σ : am_I} {ρ : am_R} {g : am_J} {τ : am_T} {Q : am_Q} {x0 x1 x2 x3 x4 x5 x6 : Value} : AW d 178 28 [x0, x1, x2, x3, x4, x5, x6] (st) σ ρ g τ Q = AW d 178 29 [x0, x1, x2, x3, x4, x5, x6] (.int 2 :: st) σ ρ g τ Q := aw_lc m178 d178_28 rfl rfl rfl
theorem d178_29 : decode cX12_gather 29 = .ok (.invokestatic 194, 3) := by decide +kernel
theorem s178_29 {d : Nat} {st : List Value} {σ : am_I} {ρ : am_R} {g : am_J} {τ : am_T} {Q : am_Q} {x0 x1 x2 x3 x4 x5 x6 : Value} {p0 : Int32} {p1 : Int32} {p2 : Int32} (hs : st.length ≤ 4) : AW (d + 1) 178 29 [x0, x1, x2, x3, x4, x5, x6] (.int p2 :: .int p1 :: .int p0 :: st) σ ρ g τ Q = AW d 165 0 [.int p0, .int p1, .int p2] [] σ ρ g τ (fun r9 σ ρ g τ => AW (d + 1) 178 32 [x0, x1, x2, x3, x4, x5, x6] (r9.toList ++ st) σ ρ g τ Q) := aw_cs m178 d178_29 rfl (by simp only [List.length_cons]; omega) rfl rfl en165 ok165 rfl hs
theorem d178_32 : decode cX12_gather 32 = .ok (.ifCond .ne 5, 3) := by decide +kernel
theorem s178_32 {d : Nat} {st : List Value} {σ : am_I} {ρ : am_R} {g : am_J} {τ : am_T} {Q : am_Q} {x0 x1 x2 x3 x4 x5 x6 : Value} {v : Int32} : AW d 178 32 [x0, x1, x2, x3, x4, x5, x6] (.int v :: st) σ ρ g τ Q = if ¬ v = 0 then AW d 178 37 [x0, x1, x2, x3, x4, x5, x6] (st) σ ρ g τ Q else AW d 178 35 [x0, x1, x2, x3, x4, x5, x6] (st) σ ρ g τ Q := aw_br m178 d178_32 rfl rfl rfl
theorem d178_35 : decode cX12_gather 35 = .ok (.iconst (-1), 1) := by decide +kernel
theorem s178_35 {d : Nat} {st : List Value} {σ : am_I} {ρ : am_R} {g : am_J} {τ : am_T} {Q : am_Q} {x0 x1 x2 x3 x4 x5 x6 : Value} : AW d 178 35 [x0, x1, x2, x3, x4, x5, x6] (st) σ ρ g τ Q = AW d 178 36 [x0, x1, x2, x3, x4, x5, x6] (.int (-1) :: st) σ ρ g τ Q := aw_lc m178 d178_35 rfl rfl rfl
theorem d178_36 : decode cX12_gather 36 = .ok (.ireturn, 1) := by decide +kernel
theorem s178_36 {d : Nat} {σ : am_I} {ρ : am_R} {g : am_J} {τ : am_T} {Q : am_Q} {x0 x1 x2 x3 x4 x5 x6 : Value} {v : Int32} : AW d 178 36 [x0, x1, x2, x3, x4, x5, x6] ([.int v]) σ ρ g τ Q = Q (some (.int v)) σ ρ g τ := aw_ri m178 d178_36 rfl
theorem d178_37 : decode cX12_gather 37 = .ok (.aload_n 0, 1) := by decide +kernel
theorem s178_37 {d : Nat} {st : List Value} {σ : am_I} {ρ : am_R} {g : am_J} {τ : am_T} {Q : am_Q} {x1 x2 x3 x4 x5 x6 : Value} {v : Nat} : AW d 178 37 [.ref v, x1, x2, x3, x4, x5, x6] (st) σ ρ g τ Q = AW d 178 38 [.ref v, x1, x2, x3, x4, x5, x6] (.ref v :: st) σ ρ g τ Q := aw_lc m178 d178_37 rfl rfl rfl
theorem d178_38 : decode cX12_gather 38 = .ok (.iload_n 1, 1) := by decide +kernel
theorem s178_38 {d : Nat} {st : List Value} {σ : am_I} {ρ : am_R} {g : am_J} {τ : am_T} {Q : am_Q} {x0 x2 x3 x4 x5 x6 : Value} {v : Int32} : AW d 178 38 [x0, .int v, x2, x3, x4, x5, x6] (st) σ ρ g τ Q = AW d 178 39 [x0, .int v, x2, x3, x4, x5, x6] (.int v :: st) σ ρ g τ Q := aw_lc m178 d178_38 rfl rfl rfl
theorem d178_39 : decode cX12_gather 39 = .ok (.iload_n 2, 1) := by decide +kernel
theorem s178_39 {d : Nat} {st : List Value} {σ : am_I} {ρ : am_R} {g : am_J} {τ : am_T} {Q : am_Q} {x0 x1 x3 x4 x5 x6 : Value} {v : Int32} : AW d 178 39 [x0, x1, .int v, x3, x4, x5, x6] (st) σ ρ g τ Q = AW d 178 40 [x0, x1, .int v, x3, x4, x5, x6] (.int v :: st) σ ρ g τ Q := aw_lc m178 d178_39 rfl rfl rfl
theorem d178_40 : decode cX12_gather 40 = .ok (.iload_n 3, 1) := by decide +kernel
theorem s178_40 {d : Nat} {st : List Value} {σ : am_I} {ρ : am_R} {g : am_J} {τ : am_T} {Q : am_Q} {x0 x1 x2 x4 x5 x6 : Value} {v : Int32} : AW d 178 40 [x0, x1, x2, .int v, x4, x5, x6] (st) σ ρ g τ Q = AW d 178 41 [x0, x1, x2, .int v, x4, x5, x6] (.int v :: st) σ ρ g τ Q := aw_lc m178 d178_40 rfl rfl rfl
theorem d178_41 : decode cX12_gather 41 = .ok (.aload_n 0, 1) := by decide +kernel
theorem s178_41 {d : Nat} {st : List Value} {σ : am_I} {ρ : am_R} {g : am_J} {τ : am_T} {Q : am_Q} {x1 x2 x3 x4 x5 x6 : Value} {v : Nat} : AW d 178 41 [.ref v, x1, x2, x3, x4, x5, x6] (st) σ ρ g τ Q = AW d 178 42 [.ref v, x1, x2, x3, x4, x5, x6] (.ref v :: st) σ ρ g τ Q := aw_lc m178 d178_41 rfl rfl rfl
theorem d178_42 : decode cX12_gather 42 = .ok (.getfield 13, 3) := by decide +kernel
theorem s178_42 {d : Nat} {st : List Value} {σ : am_I} {ρ : am_R} {g : am_J} {τ : am_T} {Q : am_Q} {x0 x1 x2 x3 x4 x5 x6 : Value} {a : Nat} (ht : τ.1 a = 12) : AW d 178 42 [x0, x1, x2, x3, x4, x5, x6] (.ref a :: st) σ ρ g τ Q = AW d 178 45 [x0, x1, x2, x3, x4, x5, x6] (va_rf (ρ a 1) :: st) σ ρ g τ Q := aw_gr m178 d178_42 rfl rfl rfl ht
theorem d178_45 : decode cX12_gather 45 = .ok (.iload_n 2, 1) := by decide +kernel
theorem s178_45 {d : Nat} {st : List Value} {σ : am_I} {ρ : am_R} {g : am_J} {τ : am_T} {Q : am_Q} {x0 x1 x3 x4 x5 x6 : Value} {v : Int32} : AW d 178 45 [x0, x1, .int v, x3, x4, x5, x6] (st) σ ρ g τ Q = AW d 178 46 [x0, x1, .int v, x3, x4, x5, x6] (.int v :: st) σ ρ g τ Q := aw_lc m178 d178_45 rfl rfl rfl
theorem d178_46 : decode cX12_gather 46 = .ok (.iaload, 1) := by decide +kernel
theorem s178_46 {d : Nat} {st : List Value} {σ : am_I} {ρ : am_R} {g : am_J} {τ : am_T} {Q : am_Q} {x0 x1 x2 x3 x4 x5 x6 : Value} {a : Nat} {j : Int32} (ht : τ.1 a = 15) (hj : am_inb j (τ.2.1 a) = true) : AW d 178 46 [x0, x1, x2, x3, x4, x5, x6] (.int j :: .ref a :: st) σ ρ g τ Q = AW d 178 47 [x0, x1, x2, x3, x4, x5, x6] (.int (σ a j.toNatClampNeg) :: st) σ ρ g τ Q := aw_ial m178 d178_46 rfl ht hj
theorem d178_47 : decode cX12_gather 47 = .ok (.invokevirtual 198, 3) := by decide +kernel
theorem s178_47 {d : Nat} {st : List Value} {σ : am_I} {ρ : am_R} {g : am_J} {τ : am_T} {Q : am_Q} {x0 x1 x2 x3 x4 x5 x6 : Value} {p0 : Nat} {p1 : Int32} {p2 : Int32} {p3 : Int32} {p4 : Int32} (ht : τ.1 p0 = 12) (hs : st.length ≤ 4) : AW (d + 1) 178 47 [x0, x1, x2, x3, x4, x5, x6] (.int p4 :: .int p3 :: .int p2 :: .int p1 :: .ref p0 :: st) σ ρ g τ Q = AW d 169 0 [.ref p0, .int p1, .int p2, .int p3, .int p4] [] σ ρ g τ (fun r9 σ ρ g τ => AW (d + 1) 178 50 [x0, x1, x2, x3, x4, x5, x6] (r9.toList ++ st) σ ρ g τ Q) := aw_cv m178 d178_47 rfl m169 rfl rfl (by decide) en169 ok169 rfl ht hs
theorem d178_50 : decode cX12_gather 50 = .ok (.istore 5, 2) := by decide +kernel
theorem s178_50 {d : Nat} {st : List Value} {σ : am_I} {ρ : am_R} {g : am_J} {τ : am_T} {Q : am_Q} {x0 x1 x2 x3 x5 x6 : Value} {v : Int32} {u : Int32} : AW d 178 50 [x0, x1, x2, x3, .int u, x5, x6] (.int v :: st) σ ρ g τ Q = AW d 178 52 [x0, x1, x2, x3, .int u, .int v, x6] (st) σ ρ g τ Q := aw_lc m178 d178_50 rfl rfl rfl
theorem d178_52 : decode cX12_gather 52 = .ok (.aload_n 0, 1) := by decide +kernel
theorem s178_52 {d : Nat} {st : List Value} {σ : am_I} {ρ : am_R} {g : am_J} {τ : am_T} {Q : am_Q} {x1 x2 x3 x4 x5 x6 : Value} {v : Nat} : AW d 178 52 [.ref v, x1, x2, x3, x4, x5, x6] (st) σ ρ g τ Q = AW d 178 53 [.ref v, x1, x2, x3, x4, x5, x6] (.ref v :: st) σ ρ g τ Q := aw_lc m178 d178_52 rfl rfl rfl
theorem d178_53 : decode cX12_gather 53 = .ok (.iload_n 1, 1) := by decide +kernel
theorem s178_53 {d : Nat} {st : List Value} {σ : am_I} {ρ : am_R} {g : am_J} {τ : am_T} {Q : am_Q} {x0 x2 x3 x4 x5 x6 : Value} {v : Int32} : AW d 178 53 [x0, .int v, x2, x3, x4, x5, x6] (st) σ ρ g τ Q = AW d 178 54 [x0, .int v, x2, x3, x4, x5, x6] (.int v :: st) σ ρ g τ Q := aw_lc m178 d178_53 rfl rfl rfl
theorem d178_54 : decode cX12_gather 54 = .ok (.iload_n 2, 1) := by decide +kernel
theorem s178_54 {d : Nat} {st : List Value} {σ : am_I} {ρ : am_R} {g : am_J} {τ : am_T} {Q : am_Q} {x0 x1 x3 x4 x5 x6 : Value} {v : Int32} : AW d 178 54 [x0, x1, .int v, x3, x4, x5, x6] (st) σ ρ g τ Q = AW d 178 55 [x0, x1, .int v, x3, x4, x5, x6] (.int v :: st) σ ρ g τ Q := aw_lc m178 d178_54 rfl rfl rfl
theorem d178_55 : decode cX12_gather 55 = .ok (.iload_n 3, 1) := by decide +kernel
theorem s178_55 {d : Nat} {st : List Value} {σ : am_I} {ρ : am_R} {g : am_J} {τ : am_T} {Q : am_Q} {x0 x1 x2 x4 x5 x6 : Value} {v : Int32} : AW d 178 55 [x0, x1, x2, .int v, x4, x5, x6] (st) σ ρ g τ Q = AW d 178 56 [x0, x1, x2, .int v, x4, x5, x6] (.int v :: st) σ ρ g τ Q := aw_lc m178 d178_55 rfl rfl rfl
theorem d178_56 : decode cX12_gather 56 = .ok (.aload_n 0, 1) := by decide +kernel
theorem s178_56 {d : Nat} {st : List Value} {σ : am_I} {ρ : am_R} {g : am_J} {τ : am_T} {Q : am_Q} {x1 x2 x3 x4 x5 x6 : Value} {v : Nat} : AW d 178 56 [.ref v, x1, x2, x3, x4, x5, x6] (st) σ ρ g τ Q = AW d 178 57 [.ref v, x1, x2, x3, x4, x5, x6] (.ref v :: st) σ ρ g τ Q := aw_lc m178 d178_56 rfl rfl rfl
theorem d178_57 : decode cX12_gather 57 = .ok (.getfield 13, 3) := by decide +kernel
theorem s178_57 {d : Nat} {st : List Value} {σ : am_I} {ρ : am_R} {g : am_J} {τ : am_T} {Q : am_Q} {x0 x1 x2 x3 x4 x5 x6 : Value} {a : Nat} (ht : τ.1 a = 12) : AW d 178 57 [x0, x1, x2, x3, x4, x5, x6] (.ref a :: st) σ ρ g τ Q = AW d 178 60 [x0, x1, x2, x3, x4, x5, x6] (va_rf (ρ a 1) :: st) σ ρ g τ Q := aw_gr m178 d178_57 rfl rfl rfl ht
theorem d178_60 : decode cX12_gather 60 = .ok (.iload_n 2, 1) := by decide +kernel
theorem s178_60 {d : Nat} {st : List Value} {σ : am_I} {ρ : am_R} {g : am_J} {τ : am_T} {Q : am_Q} {x0 x1 x3 x4 x5 x6 : Value} {v : Int32} : AW d 178 60 [x0, x1, .int v, x3, x4, x5, x6] (st) σ ρ g τ Q = AW d 178 61 [x0, x1, .int v, x3, x4, x5, x6] (.int v :: st) σ ρ g τ Q := aw_lc m178 d178_60 rfl rfl rfl
theorem d178_61 : decode cX12_gather 61 = .ok (.iaload, 1) := by decide +kernel
theorem s178_61 {d : Nat} {st : List Value} {σ : am_I} {ρ : am_R} {g : am_J} {τ : am_T} {Q : am_Q} {x0 x1 x2 x3 x4 x5 x6 : Value} {a : Nat} {j : Int32} (ht : τ.1 a = 15) (hj : am_inb j (τ.2.1 a) = true) : AW d 178 61 [x0, x1, x2, x3, x4, x5, x6] (.int j :: .ref a :: st) σ ρ g τ Q = AW d 178 62 [x0, x1, x2, x3, x4, x5, x6] (.int (σ a j.toNatClampNeg) :: st) σ ρ g τ Q := aw_ial m178 d178_61 rfl ht hj
theorem d178_62 : decode cX12_gather 62 = .ok (.aload_n 0, 1) := by decide +kernel
theorem s178_62 {d : Nat} {st : List Value} {σ : am_I} {ρ : am_R} {g : am_J} {τ : am_T} {Q : am_Q} {x1 x2 x3 x4 x5 x6 : Value} {v : Nat} : AW d 178 62 [.ref v, x1, x2, x3, x4, x5, x6] (st) σ ρ g τ Q = AW d 178 63 [.ref v, x1, x2, x3, x4, x5, x6] (.ref v :: st) σ ρ g τ Q := aw_lc m178 d178_62 rfl rfl rfl
theorem d178_63 : decode cX12_gather 63 = .ok (.getfield 25, 3) := by decide +kernel
theorem s178_63 {d : Nat} {st : List Value} {σ : am_I} {ρ : am_R} {g : am_J} {τ : am_T} {Q : am_Q} {x0 x1 x2 x3 x4 x5 x6 : Value} {a : Nat} (ht : τ.1 a = 12) : AW d 178 63 [x0, x1, x2, x3, x4, x5, x6] (.ref a :: st) σ ρ g τ Q = AW d 178 66 [x0, x1, x2, x3, x4, x5, x6] (va_rf (ρ a 5) :: st) σ ρ g τ Q := aw_gr m178 d178_63 rfl rfl rfl ht
theorem d178_66 : decode cX12_gather 66 = .ok (.iload_n 1, 1) := by decide +kernel
theorem s178_66 {d : Nat} {st : List Value} {σ : am_I} {ρ : am_R} {g : am_J} {τ : am_T} {Q : am_Q} {x0 x2 x3 x4 x5 x6 : Value} {v : Int32} : AW d 178 66 [x0, .int v, x2, x3, x4, x5, x6] (st) σ ρ g τ Q = AW d 178 67 [x0, .int v, x2, x3, x4, x5, x6] (.int v :: st) σ ρ g τ Q := aw_lc m178 d178_66 rfl rfl rfl
theorem d178_67 : decode cX12_gather 67 = .ok (.iaload, 1) := by decide +kernel
theorem s178_67 {d : Nat} {st : List Value} {σ : am_I} {ρ : am_R} {g : am_J} {τ : am_T} {Q : am_Q} {x0 x1 x2 x3 x4 x5 x6 : Value} {a : Nat} {j : Int32} (ht : τ.1 a = 15) (hj : am_inb j (τ.2.1 a) = true) : AW d 178 67 [x0, x1, x2, x3, x4, x5, x6] (.int j :: .ref a :: st) σ ρ g τ Q = AW d 178 68 [x0, x1, x2, x3, x4, x5, x6] (.int (σ a j.toNatClampNeg) :: st) σ ρ g τ Q := aw_ial m178 d178_67 rfl ht hj
theorem d178_68 : decode cX12_gather 68 = .ok (.invokevirtual 206, 3) := by decide +kernel
theorem s178_68 {d : Nat} {st : List Value} {σ : am_I} {ρ : am_R} {g : am_J} {τ : am_T} {Q : am_Q} {x0 x1 x2 x3 x4 x5 x6 : Value} {p0 : Nat} {p1 : Int32} {p2 : Int32} {p3 : Int32} {p4 : Int32} {p5 : Int32} (ht : τ.1 p0 = 12) (hs : st.length ≤ 4) : AW (d + 1) 178 68 [x0, x1, x2, x3, x4, x5, x6] (.int p5 :: .int p4 :: .int p3 :: .int p2 :: .int p1 :: .ref p0 :: st) σ ρ g τ Q = AW d 170 0 [.ref p0, .int p1, .int p2, .int p3, .int p4, .int p5] [] σ ρ g τ (fun r9 σ ρ g τ => AW (d + 1) 178 71 [x0, x1, x2, x3, x4, x5, x6] (r9.toList ++ st) σ ρ g τ Q) := aw_cv m178 d178_68 rfl m170 rfl rfl (by decide) en170 ok170 rfl ht hs
theorem d178_71 : decode cX12_gather 71 = .ok (.istore 6, 2) := by decide +kernel
theorem s178_71 {d : Nat} {st : List Value} {σ : am_I} {ρ : am_R} {g : am_J} {τ : am_T} {Q : am_Q} {x0 x1 x2 x3 x4 x6 : Value} {v : Int32} {u : Int32} : AW d 178 71 [x0, x1, x2, x3, x4, .int u, x6] (.int v :: st) σ ρ g τ Q = AW d 178 73 [x0, x1, x2, x3, x4, .int u, .int v] (st) σ ρ g τ Q := aw_lc m178 d178_71 rfl rfl rfl
theorem d178_73 : decode cX12_gather 73 = .ok (.iload 4, 2) := by decide +kernel
theorem s178_73 {d : Nat} {st : List Value} {σ : am_I} {ρ : am_R} {g : am_J} {τ : am_T} {Q : am_Q} {x0 x1 x2 x3 x5 x6 : Value} {v : Int32} : AW d 178 73 [x0, x1, x2, x3, .int v, x5, x6] (st) σ ρ g τ Q = AW d 178 75 [x0, x1, x2, x3, .int v, x5, x6] (.int v :: st) σ ρ g τ Q := aw_lc m178 d178_73 rfl rfl rfl
theorem d178_75 : decode cX12_gather 75 = .ok (.ifCond .ne 8, 3) := by decide +kernel
theorem s178_75 {d : Nat} {st : List Value} {σ : am_I} {ρ : am_R} {g : am_J} {τ : am_T} {Q : am_Q} {x0 x1 x2 x3 x4 x5 x6 : Value} {v : Int32} : AW d 178 75 [x0, x1, x2, x3, x4, x5, x6] (.int v :: st) σ ρ g τ Q = if ¬ v = 0 then AW d 178 83 [x0, x1, x2, x3, x4, x5, x6] (st) σ ρ g τ Q else AW d 178 78 [x0, x1, x2, x3, x4, x5, x6] (st) σ ρ g τ Q := aw_br m178 d178_75 rfl rfl rfl
theorem d178_78 : decode cX12_gather 78 = .ok (.iload 5, 2) := by decide +kernel
theorem s178_78 {d : Nat} {st : List Value} {σ : am_I} {ρ : am_R} {g : am_J} {τ : am_T} {Q : am_Q} {x0 x1 x2 x3 x4 x6 : Value} {v : Int32} : AW d 178 78 [x0, x1, x2, x3, x4, .int v, x6] (st) σ ρ g τ Q = AW d 178 80 [x0, x1, x2, x3, x4, .int v, x6] (.int v :: st) σ ρ g τ Q := aw_lc m178 d178_78 rfl rfl rfl
theorem d178_80 : decode cX12_gather 80 = .ok (.goto 19, 3) := by decide +kernel
theorem s178_80 {d : Nat} {st : List Value} {σ : am_I} {ρ : am_R} {g : am_J} {τ : am_T} {Q : am_Q} {x0 x1 x2 x3 x4 x5 x6 : Value} : AW d 178 80 [x0, x1, x2, x3, x4, x5, x6] (st) σ ρ g τ Q = AW d 178 99 [x0, x1, x2, x3, x4, x5, x6] (st) σ ρ g τ Q := aw_lc m178 d178_80 rfl rfl rfl
theorem d178_83 : decode cX12_gather 83 = .ok (.iload 4, 2) := by decide +kernel
theorem s178_83 {d : Nat} {st : List Value} {σ : am_I} {ρ : am_R} {g : am_J} {τ : am_T} {Q : am_Q} {x0 x1 x2 x3 x5 x6 : Value} {v : Int32} : AW d 178 83 [x0, x1, x2, x3, .int v, x5, x6] (st) σ ρ g τ Q = AW d 178 85 [x0, x1, x2, x3, .int v, x5, x6] (.int v :: st) σ ρ g τ Q := aw_lc m178 d178_83 rfl rfl rfl
theorem d178_85 : decode cX12_gather 85 = .ok (.iconst 1, 1) := by decide +kernel
theorem s178_85 {d : Nat} {st : List Value} {σ : am_I} {ρ : am_R} {g : am_J} {τ : am_T} {Q : am_Q} {x0 x1 x2 x3 x4 x5 x6 : Value} : AW d 178 85 [x0, x1, x2, x3, x4, x5, x6] (st) σ ρ g τ Q = AW d 178 86 [x0, x1, x2, x3, x4, x5, x6] (.int 1 :: st) σ ρ g τ Q := aw_lc m178 d178_85 rfl rfl rfl
theorem d178_86 : decode cX12_gather 86 = .ok (.if_icmp .ne 8, 3) := by decide +kernel
theorem s178_86 {d : Nat} {st : List Value} {σ : am_I} {ρ : am_R} {g : am_J} {τ : am_T} {Q : am_Q} {x0 x1 x2 x3 x4 x5 x6 : Value} {v w : Int32} : AW d 178 86 [x0, x1, x2, x3, x4, x5, x6] (.int w :: .int v :: st) σ ρ g τ Q = if ¬ v = w then AW d 178 94 [x0, x1, x2, x3, x4, x5, x6] (st) σ ρ g τ Q else AW d 178 89 [x0, x1, x2, x3, x4, x5, x6] (st) σ ρ g τ Q := aw_br m178 d178_86 rfl rfl rfl
theorem d178_89 : decode cX12_gather 89 = .ok (.iload 6, 2) := by decide +kernel
theorem s178_89 {d : Nat} {st : List Value} {σ : am_I} {ρ : am_R} {g : am_J} {τ : am_T} {Q : am_Q} {x0 x1 x2 x3 x4 x5 : Value} {v : Int32} : AW d 178 89 [x0, x1, x2, x3, x4, x5, .int v] (st) σ ρ g τ Q = AW d 178 91 [x0, x1, x2, x3, x4, x5, .int v] (.int v :: st) σ ρ g τ Q := aw_lc m178 d178_89 rfl rfl rfl
theorem d178_91 : decode cX12_gather 91 = .ok (.goto 8, 3) := by decide +kernel
theorem s178_91 {d : Nat} {st : List Value} {σ : am_I} {ρ : am_R} {g : am_J} {τ : am_T} {Q : am_Q} {x0 x1 x2 x3 x4 x5 x6 : Value} : AW d 178 91 [x0, x1, x2, x3, x4, x5, x6] (st) σ ρ g τ Q = AW d 178 99 [x0, x1, x2, x3, x4, x5, x6] (st) σ ρ g τ Q := aw_lc m178 d178_91 rfl rfl rfl
theorem d178_94 : decode cX12_gather 94 = .ok (.iload 5, 2) := by decide +kernel
theorem s178_94 {d : Nat} {st : List Value} {σ : am_I} {ρ : am_R} {g : am_J} {τ : am_T} {Q : am_Q} {x0 x1 x2 x3 x4 x6 : Value} {v : Int32} : AW d 178 94 [x0, x1, x2, x3, x4, .int v, x6] (st) σ ρ g τ Q = AW d 178 96 [x0, x1, x2, x3, x4, .int v, x6] (.int v :: st) σ ρ g τ Q := aw_lc m178 d178_94 rfl rfl rfl
theorem d178_96 : decode cX12_gather 96 = .ok (.iload 6, 2) := by decide +kernel
theorem s178_96 {d : Nat} {st : List Value} {σ : am_I} {ρ : am_R} {g : am_J} {τ : am_T} {Q : am_Q} {x0 x1 x2 x3 x4 x5 : Value} {v : Int32} : AW d 178 96 [x0, x1, x2, x3, x4, x5, .int v] (st) σ ρ g τ Q = AW d 178 98 [x0, x1, x2, x3, x4, x5, .int v] (.int v :: st) σ ρ g τ Q := aw_lc m178 d178_96 rfl rfl rfl
theorem d178_98 : decode cX12_gather 98 = .ok (.isub, 1) := by decide +kernel
theorem s178_98 {d : Nat} {st : List Value} {σ : am_I} {ρ : am_R} {g : am_J} {τ : am_T} {Q : am_Q} {x0 x1 x2 x3 x4 x5 x6 : Value} {v w : Int32} : AW d 178 98 [x0, x1, x2, x3, x4, x5, x6] (.int w :: .int v :: st) σ ρ g τ Q = AW d 178 99 [x0, x1, x2, x3, x4, x5, x6] (.int (v - w) :: st) σ ρ g τ Q := aw_lc m178 d178_98 rfl rfl rfl
theorem d178_99 : decode cX12_gather 99 = .ok (.ireturn, 1) := by decide +kernel
theorem s178_99 {d : Nat} {σ : am_I} {ρ : am_R} {g : am_J} {τ : am_T} {Q : am_Q} {x0 x1 x2 x3 x4 x5 x6 : Value} {v : Int32} : AW d 178 99 [x0, x1, x2, x3, x4, x5, x6] ([.int v]) σ ρ g τ Q = Q (some (.int v)) σ ρ g τ := aw_ri m178 d178_99 rfl
theorem d179_0 : decode cX12_bestRate 0 = .ok (.iload_n 1, 1) := by decide +kernel
theorem s179_0 {d : Nat} {st : List Value} {σ : am_I} {ρ : am_R} {g : am_J} {τ : am_T} {Q : am_Q} {x0 x2 x3 x4 x5 x6 x7 : Value} {v : Int32} : AW d 179 0 [x0, .int v, x2, x3, x4, x5, x6, x7] (st) σ ρ g τ Q = AW d 179 1 [x0, .int v, x2, x3, x4, x5, x6, x7] (.int v :: st) σ ρ g τ Q := aw_lc m179 d179_0 rfl rfl rfl
theorem d179_1 : decode cX12_bestRate 1 = .ok (.iconst 0, 1) := by decide +kernel
theorem s179_1 {d : Nat} {st : List Value} {σ : am_I} {ρ : am_R} {g : am_J} {τ : am_T} {Q : am_Q} {x0 x1 x2 x3 x4 x5 x6 x7 : Value} : AW d 179 1 [x0, x1, x2, x3, x4, x5, x6, x7] (st) σ ρ g τ Q = AW d 179 2 [x0, x1, x2, x3, x4, x5, x6, x7] (.int 0 :: st) σ ρ g τ Q := aw_lc m179 d179_1 rfl rfl rfl
theorem d179_2 : decode cX12_bestRate 2 = .ok (.iconst 2, 1) := by decide +kernel
theorem s179_2 {d : Nat} {st : List Value} {σ : am_I} {ρ : am_R} {g : am_J} {τ : am_T} {Q : am_Q} {x0 x1 x2 x3 x4 x5 x6 x7 : Value} : AW d 179 2 [x0, x1, x2, x3, x4, x5, x6, x7] (st) σ ρ g τ Q = AW d 179 3 [x0, x1, x2, x3, x4, x5, x6, x7] (.int 2 :: st) σ ρ g τ Q := aw_lc m179 d179_2 rfl rfl rfl
theorem d179_3 : decode cX12_bestRate 3 = .ok (.invokestatic 194, 3) := by decide +kernel
theorem s179_3 {d : Nat} {st : List Value} {σ : am_I} {ρ : am_R} {g : am_J} {τ : am_T} {Q : am_Q} {x0 x1 x2 x3 x4 x5 x6 x7 : Value} {p0 : Int32} {p1 : Int32} {p2 : Int32} (hs : st.length ≤ 4) : AW (d + 1) 179 3 [x0, x1, x2, x3, x4, x5, x6, x7] (.int p2 :: .int p1 :: .int p0 :: st) σ ρ g τ Q = AW d 165 0 [.int p0, .int p1, .int p2] [] σ ρ g τ (fun r9 σ ρ g τ => AW (d + 1) 179 6 [x0, x1, x2, x3, x4, x5, x6, x7] (r9.toList ++ st) σ ρ g τ Q) := aw_cs m179 d179_3 rfl (by simp only [List.length_cons]; omega) rfl rfl en165 ok165 rfl hs
theorem d179_6 : decode cX12_bestRate 6 = .ok (.ifCond .eq 19, 3) := by decide +kernel
theorem s179_6 {d : Nat} {st : List Value} {σ : am_I} {ρ : am_R} {g : am_J} {τ : am_T} {Q : am_Q} {x0 x1 x2 x3 x4 x5 x6 x7 : Value} {v : Int32} : AW d 179 6 [x0, x1, x2, x3, x4, x5, x6, x7] (.int v :: st) σ ρ g τ Q = if v = 0 then AW d 179 25 [x0, x1, x2, x3, x4, x5, x6, x7] (st) σ ρ g τ Q else AW d 179 9 [x0, x1, x2, x3, x4, x5, x6, x7] (st) σ ρ g τ Q := aw_br m179 d179_6 rfl rfl rfl
theorem d179_9 : decode cX12_bestRate 9 = .ok (.iload_n 2, 1) := by decide +kernel
theorem s179_9 {d : Nat} {st : List Value} {σ : am_I} {ρ : am_R} {g : am_J} {τ : am_T} {Q : am_Q} {x0 x1 x3 x4 x5 x6 x7 : Value} {v : Int32} : AW d 179 9 [x0, x1, .int v, x3, x4, x5, x6, x7] (st) σ ρ g τ Q = AW d 179 10 [x0, x1, .int v, x3, x4, x5, x6, x7] (.int v :: st) σ ρ g τ Q := aw_lc m179 d179_9 rfl rfl rfl
theorem d179_10 : decode cX12_bestRate 10 = .ok (.invokestatic 216, 3) := by decide +kernel
theorem s179_10 {d : Nat} {st : List Value} {σ : am_I} {ρ : am_R} {g : am_J} {τ : am_T} {Q : am_Q} {x0 x1 x2 x3 x4 x5 x6 x7 : Value} {p0 : Int32} (hs : st.length ≤ 4) : AW (d + 1) 179 10 [x0, x1, x2, x3, x4, x5, x6, x7] (.int p0 :: st) σ ρ g τ Q = AW d 166 0 [.int p0] [] σ ρ g τ (fun r9 σ ρ g τ => AW (d + 1) 179 13 [x0, x1, x2, x3, x4, x5, x6, x7] (r9.toList ++ st) σ ρ g τ Q) := aw_cs m179 d179_10 rfl (by simp only [List.length_cons]; omega) rfl rfl en166 ok166 rfl hs
theorem d179_13 : decode cX12_bestRate 13 = .ok (.ifCond .eq 12, 3) := by decide +kernel
theorem s179_13 {d : Nat} {st : List Value} {σ : am_I} {ρ : am_R} {g : am_J} {τ : am_T} {Q : am_Q} {x0 x1 x2 x3 x4 x5 x6 x7 : Value} {v : Int32} : AW d 179 13 [x0, x1, x2, x3, x4, x5, x6, x7] (.int v :: st) σ ρ g τ Q = if v = 0 then AW d 179 25 [x0, x1, x2, x3, x4, x5, x6, x7] (st) σ ρ g τ Q else AW d 179 16 [x0, x1, x2, x3, x4, x5, x6, x7] (st) σ ρ g τ Q := aw_br m179 d179_13 rfl rfl rfl
theorem d179_16 : decode cX12_bestRate 16 = .ok (.iload_n 3, 1) := by decide +kernel
theorem s179_16 {d : Nat} {st : List Value} {σ : am_I} {ρ : am_R} {g : am_J} {τ : am_T} {Q : am_Q} {x0 x1 x2 x4 x5 x6 x7 : Value} {v : Int32} : AW d 179 16 [x0, x1, x2, .int v, x4, x5, x6, x7] (st) σ ρ g τ Q = AW d 179 17 [x0, x1, x2, .int v, x4, x5, x6, x7] (.int v :: st) σ ρ g τ Q := aw_lc m179 d179_16 rfl rfl rfl
theorem d179_17 : decode cX12_bestRate 17 = .ok (.iconst 0, 1) := by decide +kernel
theorem s179_17 {d : Nat} {st : List Value} {σ : am_I} {ρ : am_R} {g : am_J} {τ : am_T} {Q : am_Q} {x0 x1 x2 x3 x4 x5 x6 x7 : Value} : AW d 179 17 [x0, x1, x2, x3, x4, x5, x6, x7] (st) σ ρ g τ Q = AW d 179 18 [x0, x1, x2, x3, x4, x5, x6, x7] (.int 0 :: st) σ ρ g τ Q := aw_lc m179 d179_17 rfl rfl rfl
theorem d179_18 : decode cX12_bestRate 18 = .ok (.iconst 1, 1) := by decide +kernel
theorem s179_18 {d : Nat} {st : List Value} {σ : am_I} {ρ : am_R} {g : am_J} {τ : am_T} {Q : am_Q} {x0 x1 x2 x3 x4 x5 x6 x7 : Value} : AW d 179 18 [x0, x1, x2, x3, x4, x5, x6, x7] (st) σ ρ g τ Q = AW d 179 19 [x0, x1, x2, x3, x4, x5, x6, x7] (.int 1 :: st) σ ρ g τ Q := aw_lc m179 d179_18 rfl rfl rfl
theorem d179_19 : decode cX12_bestRate 19 = .ok (.invokestatic 194, 3) := by decide +kernel
theorem s179_19 {d : Nat} {st : List Value} {σ : am_I} {ρ : am_R} {g : am_J} {τ : am_T} {Q : am_Q} {x0 x1 x2 x3 x4 x5 x6 x7 : Value} {p0 : Int32} {p1 : Int32} {p2 : Int32} (hs : st.length ≤ 4) : AW (d + 1) 179 19 [x0, x1, x2, x3, x4, x5, x6, x7] (.int p2 :: .int p1 :: .int p0 :: st) σ ρ g τ Q = AW d 165 0 [.int p0, .int p1, .int p2] [] σ ρ g τ (fun r9 σ ρ g τ => AW (d + 1) 179 22 [x0, x1, x2, x3, x4, x5, x6, x7] (r9.toList ++ st) σ ρ g τ Q) := aw_cs m179 d179_19 rfl (by simp only [List.length_cons]; omega) rfl rfl en165 ok165 rfl hs
theorem d179_22 : decode cX12_bestRate 22 = .ok (.ifCond .ne 5, 3) := by decide +kernel
theorem s179_22 {d : Nat} {st : List Value} {σ : am_I} {ρ : am_R} {g : am_J} {τ : am_T} {Q : am_Q} {x0 x1 x2 x3 x4 x5 x6 x7 : Value} {v : Int32} : AW d 179 22 [x0, x1, x2, x3, x4, x5, x6, x7] (.int v :: st) σ ρ g τ Q = if ¬ v = 0 then AW d 179 27 [x0, x1, x2, x3, x4, x5, x6, x7] (st) σ ρ g τ Q else AW d 179 25 [x0, x1, x2, x3, x4, x5, x6, x7] (st) σ ρ g τ Q := aw_br m179 d179_22 rfl rfl rfl
theorem d179_25 : decode cX12_bestRate 25 = .ok (.iconst (-1), 1) := by decide +kernel
theorem s179_25 {d : Nat} {st : List Value} {σ : am_I} {ρ : am_R} {g : am_J} {τ : am_T} {Q : am_Q} {x0 x1 x2 x3 x4 x5 x6 x7 : Value} : AW d 179 25 [x0, x1, x2, x3, x4, x5, x6, x7] (st) σ ρ g τ Q = AW d 179 26 [x0, x1, x2, x3, x4, x5, x6, x7] (.int (-1) :: st) σ ρ g τ Q := aw_lc m179 d179_25 rfl rfl rfl
theorem d179_26 : decode cX12_bestRate 26 = .ok (.ireturn, 1) := by decide +kernel
theorem s179_26 {d : Nat} {σ : am_I} {ρ : am_R} {g : am_J} {τ : am_T} {Q : am_Q} {x0 x1 x2 x3 x4 x5 x6 x7 : Value} {v : Int32} : AW d 179 26 [x0, x1, x2, x3, x4, x5, x6, x7] ([.int v]) σ ρ g τ Q = Q (some (.int v)) σ ρ g τ := aw_ri m179 d179_26 rfl
theorem d179_27 : decode cX12_bestRate 27 = .ok (.iconst 0, 1) := by decide +kernel
theorem s179_27 {d : Nat} {st : List Value} {σ : am_I} {ρ : am_R} {g : am_J} {τ : am_T} {Q : am_Q} {x0 x1 x2 x3 x4 x5 x6 x7 : Value} : AW d 179 27 [x0, x1, x2, x3, x4, x5, x6, x7] (st) σ ρ g τ Q = AW d 179 28 [x0, x1, x2, x3, x4, x5, x6, x7] (.int 0 :: st) σ ρ g τ Q := aw_lc m179 d179_27 rfl rfl rfl
theorem d179_28 : decode cX12_bestRate 28 = .ok (.istore 4, 2) := by decide +kernel
theorem s179_28 {d : Nat} {st : List Value} {σ : am_I} {ρ : am_R} {g : am_J} {τ : am_T} {Q : am_Q} {x0 x1 x2 x4 x5 x6 x7 : Value} {v : Int32} {u : Int32} : AW d 179 28 [x0, x1, x2, .int u, x4, x5, x6, x7] (.int v :: st) σ ρ g τ Q = AW d 179 30 [x0, x1, x2, .int u, .int v, x5, x6, x7] (st) σ ρ g τ Q := aw_lc m179 d179_28 rfl rfl rfl
theorem d179_30 : decode cX12_bestRate 30 = .ok (.aload_n 0, 1) := by decide +kernel
theorem s179_30 {d : Nat} {st : List Value} {σ : am_I} {ρ : am_R} {g : am_J} {τ : am_T} {Q : am_Q} {x1 x2 x3 x4 x5 x6 x7 : Value} {v : Nat} : AW d 179 30 [.ref v, x1, x2, x3, x4, x5, x6, x7] (st) σ ρ g τ Q = AW d 179 31 [.ref v, x1, x2, x3, x4, x5, x6, x7] (.ref v :: st) σ ρ g τ Q := aw_lc m179 d179_30 rfl rfl rfl
theorem d179_31 : decode cX12_bestRate 31 = .ok (.iload_n 1, 1) := by decide +kernel
theorem s179_31 {d : Nat} {st : List Value} {σ : am_I} {ρ : am_R} {g : am_J} {τ : am_T} {Q : am_Q} {x0 x2 x3 x4 x5 x6 x7 : Value} {v : Int32} : AW d 179 31 [x0, .int v, x2, x3, x4, x5, x6, x7] (st) σ ρ g τ Q = AW d 179 32 [x0, .int v, x2, x3, x4, x5, x6, x7] (.int v :: st) σ ρ g τ Q := aw_lc m179 d179_31 rfl rfl rfl
theorem d179_32 : decode cX12_bestRate 32 = .ok (.iload_n 2, 1) := by decide +kernel
theorem s179_32 {d : Nat} {st : List Value} {σ : am_I} {ρ : am_R} {g : am_J} {τ : am_T} {Q : am_Q} {x0 x1 x3 x4 x5 x6 x7 : Value} {v : Int32} : AW d 179 32 [x0, x1, .int v, x3, x4, x5, x6, x7] (st) σ ρ g τ Q = AW d 179 33 [x0, x1, .int v, x3, x4, x5, x6, x7] (.int v :: st) σ ρ g τ Q := aw_lc m179 d179_32 rfl rfl rfl
theorem d179_33 : decode cX12_bestRate 33 = .ok (.iconst 0, 1) := by decide +kernel
theorem s179_33 {d : Nat} {st : List Value} {σ : am_I} {ρ : am_R} {g : am_J} {τ : am_T} {Q : am_Q} {x0 x1 x2 x3 x4 x5 x6 x7 : Value} : AW d 179 33 [x0, x1, x2, x3, x4, x5, x6, x7] (st) σ ρ g τ Q = AW d 179 34 [x0, x1, x2, x3, x4, x5, x6, x7] (.int 0 :: st) σ ρ g τ Q := aw_lc m179 d179_33 rfl rfl rfl
theorem d179_34 : decode cX12_bestRate 34 = .ok (.invokevirtual 219, 3) := by decide +kernel
theorem s179_34 {d : Nat} {st : List Value} {σ : am_I} {ρ : am_R} {g : am_J} {τ : am_T} {Q : am_Q} {x0 x1 x2 x3 x4 x5 x6 x7 : Value} {p0 : Nat} {p1 : Int32} {p2 : Int32} {p3 : Int32} (ht : τ.1 p0 = 12) (hs : st.length ≤ 4) : AW (d + 1) 179 34 [x0, x1, x2, x3, x4, x5, x6, x7] (.int p3 :: .int p2 :: .int p1 :: .ref p0 :: st) σ ρ g τ Q = AW d 171 0 [.ref p0, .int p1, .int p2, .int p3, am_jk, am_jk] [] σ ρ g τ (fun r9 σ ρ g τ => AW (d + 1) 179 37 [x0, x1, x2, x3, x4, x5, x6, x7] (r9.toList ++ st) σ ρ g τ Q) := aw_cv m179 d179_34 rfl m171 rfl rfl (by decide) en171 ok171 rfl ht hs
theorem d179_37 : decode cX12_bestRate 37 = .ok (.istore 5, 2) := by decide +kernel
theorem s179_37 {d : Nat} {st : List Value} {σ : am_I} {ρ : am_R} {g : am_J} {τ : am_T} {Q : am_Q} {x0 x1 x2 x3 x5 x6 x7 : Value} {v : Int32} {u : Int32} : AW d 179 37 [x0, x1, x2, x3, .int u, x5, x6, x7] (.int v :: st) σ ρ g τ Q = AW d 179 39 [x0, x1, x2, x3, .int u, .int v, x6, x7] (st) σ ρ g τ Q := aw_lc m179 d179_37 rfl rfl rfl
theorem d179_39 : decode cX12_bestRate 39 = .ok (.iconst 1, 1) := by decide +kernel
theorem s179_39 {d : Nat} {st : List Value} {σ : am_I} {ρ : am_R} {g : am_J} {τ : am_T} {Q : am_Q} {x0 x1 x2 x3 x4 x5 x6 x7 : Value} : AW d 179 39 [x0, x1, x2, x3, x4, x5, x6, x7] (st) σ ρ g τ Q = AW d 179 40 [x0, x1, x2, x3, x4, x5, x6, x7] (.int 1 :: st) σ ρ g τ Q := aw_lc m179 d179_39 rfl rfl rfl
theorem d179_40 : decode cX12_bestRate 40 = .ok (.istore 6, 2) := by decide +kernel
theorem s179_40 {d : Nat} {st : List Value} {σ : am_I} {ρ : am_R} {g : am_J} {τ : am_T} {Q : am_Q} {x0 x1 x2 x3 x4 x6 x7 : Value} {v : Int32} {u : Int32} : AW d 179 40 [x0, x1, x2, x3, x4, .int u, x6, x7] (.int v :: st) σ ρ g τ Q = AW d 179 42 [x0, x1, x2, x3, x4, .int u, .int v, x7] (st) σ ρ g τ Q := aw_lc m179 d179_40 rfl rfl rfl
theorem d179_42 : decode cX12_bestRate 42 = .ok (.iload 6, 2) := by decide +kernel
theorem s179_42 {d : Nat} {st : List Value} {σ : am_I} {ρ : am_R} {g : am_J} {τ : am_T} {Q : am_Q} {x0 x1 x2 x3 x4 x5 x7 : Value} {v : Int32} : AW d 179 42 [x0, x1, x2, x3, x4, x5, .int v, x7] (st) σ ρ g τ Q = AW d 179 44 [x0, x1, x2, x3, x4, x5, .int v, x7] (.int v :: st) σ ρ g τ Q := aw_lc m179 d179_42 rfl rfl rfl
theorem d179_44 : decode cX12_bestRate 44 = .ok (.bipush 100, 2) := by decide +kernel
theorem s179_44 {d : Nat} {st : List Value} {σ : am_I} {ρ : am_R} {g : am_J} {τ : am_T} {Q : am_Q} {x0 x1 x2 x3 x4 x5 x6 x7 : Value} : AW d 179 44 [x0, x1, x2, x3, x4, x5, x6, x7] (st) σ ρ g τ Q = AW d 179 46 [x0, x1, x2, x3, x4, x5, x6, x7] (.int 100 :: st) σ ρ g τ Q := aw_lc m179 d179_44 rfl rfl rfl
theorem d179_46 : decode cX12_bestRate 46 = .ok (.if_icmp .gt 34, 3) := by decide +kernel
theorem s179_46 {d : Nat} {st : List Value} {σ : am_I} {ρ : am_R} {g : am_J} {τ : am_T} {Q : am_Q} {x0 x1 x2 x3 x4 x5 x6 x7 : Value} {v w : Int32} : AW d 179 46 [x0, x1, x2, x3, x4, x5, x6, x7] (.int w :: .int v :: st) σ ρ g τ Q = if w < v then AW d 179 80 [x0, x1, x2, x3, x4, x5, x6, x7] (st) σ ρ g τ Q else AW d 179 49 [x0, x1, x2, x3, x4, x5, x6, x7] (st) σ ρ g τ Q := aw_br m179 d179_46 rfl rfl rfl
theorem d179_49 : decode cX12_bestRate 49 = .ok (.aload_n 0, 1) := by decide +kernel
theorem s179_49 {d : Nat} {st : List Value} {σ : am_I} {ρ : am_R} {g : am_J} {τ : am_T} {Q : am_Q} {x1 x2 x3 x4 x5 x6 x7 : Value} {v : Nat} : AW d 179 49 [.ref v, x1, x2, x3, x4, x5, x6, x7] (st) σ ρ g τ Q = AW d 179 50 [.ref v, x1, x2, x3, x4, x5, x6, x7] (.ref v :: st) σ ρ g τ Q := aw_lc m179 d179_49 rfl rfl rfl
theorem d179_50 : decode cX12_bestRate 50 = .ok (.iload_n 1, 1) := by decide +kernel
theorem s179_50 {d : Nat} {st : List Value} {σ : am_I} {ρ : am_R} {g : am_J} {τ : am_T} {Q : am_Q} {x0 x2 x3 x4 x5 x6 x7 : Value} {v : Int32} : AW d 179 50 [x0, .int v, x2, x3, x4, x5, x6, x7] (st) σ ρ g τ Q = AW d 179 51 [x0, .int v, x2, x3, x4, x5, x6, x7] (.int v :: st) σ ρ g τ Q := aw_lc m179 d179_50 rfl rfl rfl
theorem d179_51 : decode cX12_bestRate 51 = .ok (.iload_n 2, 1) := by decide +kernel
theorem s179_51 {d : Nat} {st : List Value} {σ : am_I} {ρ : am_R} {g : am_J} {τ : am_T} {Q : am_Q} {x0 x1 x3 x4 x5 x6 x7 : Value} {v : Int32} : AW d 179 51 [x0, x1, .int v, x3, x4, x5, x6, x7] (st) σ ρ g τ Q = AW d 179 52 [x0, x1, .int v, x3, x4, x5, x6, x7] (.int v :: st) σ ρ g τ Q := aw_lc m179 d179_51 rfl rfl rfl
theorem d179_52 : decode cX12_bestRate 52 = .ok (.iload 6, 2) := by decide +kernel
theorem s179_52 {d : Nat} {st : List Value} {σ : am_I} {ρ : am_R} {g : am_J} {τ : am_T} {Q : am_Q} {x0 x1 x2 x3 x4 x5 x7 : Value} {v : Int32} : AW d 179 52 [x0, x1, x2, x3, x4, x5, .int v, x7] (st) σ ρ g τ Q = AW d 179 54 [x0, x1, x2, x3, x4, x5, .int v, x7] (.int v :: st) σ ρ g τ Q := aw_lc m179 d179_52 rfl rfl rfl
theorem d179_54 : decode cX12_bestRate 54 = .ok (.invokevirtual 219, 3) := by decide +kernel
theorem s179_54 {d : Nat} {st : List Value} {σ : am_I} {ρ : am_R} {g : am_J} {τ : am_T} {Q : am_Q} {x0 x1 x2 x3 x4 x5 x6 x7 : Value} {p0 : Nat} {p1 : Int32} {p2 : Int32} {p3 : Int32} (ht : τ.1 p0 = 12) (hs : st.length ≤ 4) : AW (d + 1) 179 54 [x0, x1, x2, x3, x4, x5, x6, x7] (.int p3 :: .int p2 :: .int p1 :: .ref p0 :: st) σ ρ g τ Q = AW d 171 0 [.ref p0, .int p1, .int p2, .int p3, am_jk, am_jk] [] σ ρ g τ (fun r9 σ ρ g τ => AW (d + 1) 179 57 [x0, x1, x2, x3, x4, x5, x6, x7] (r9.toList ++ st) σ ρ g τ Q) := aw_cv m179 d179_54 rfl m171 rfl rfl (by decide) en171 ok171 rfl ht hs
theorem d179_57 : decode cX12_bestRate 57 = .ok (.istore 7, 2) := by decide +kernel
theorem s179_57 {d : Nat} {st : List Value} {σ : am_I} {ρ : am_R} {g : am_J} {τ : am_T} {Q : am_Q} {x0 x1 x2 x3 x4 x5 x7 : Value} {v : Int32} {u : Int32} : AW d 179 57 [x0, x1, x2, x3, x4, x5, .int u, x7] (.int v :: st) σ ρ g τ Q = AW d 179 59 [x0, x1, x2, x3, x4, x5, .int u, .int v] (st) σ ρ g τ Q := aw_lc m179 d179_57 rfl rfl rfl
theorem d179_59 : decode cX12_bestRate 59 = .ok (.iload 7, 2) := by decide +kernel
theorem s179_59 {d : Nat} {st : List Value} {σ : am_I} {ρ : am_R} {g : am_J} {τ : am_T} {Q : am_Q} {x0 x1 x2 x3 x4 x5 x6 : Value} {v : Int32} : AW d 179 59 [x0, x1, x2, x3, x4, x5, x6, .int v] (st) σ ρ g τ Q = AW d 179 61 [x0, x1, x2, x3, x4, x5, x6, .int v] (.int v :: st) σ ρ g τ Q := aw_lc m179 d179_59 rfl rfl rfl
theorem d179_61 : decode cX12_bestRate 61 = .ok (.iload 5, 2) := by decide +kernel
theorem s179_61 {d : Nat} {st : List Value} {σ : am_I} {ρ : am_R} {g : am_J} {τ : am_T} {Q : am_Q} {x0 x1 x2 x3 x4 x6 x7 : Value} {v : Int32} : AW d 179 61 [x0, x1, x2, x3, x4, .int v, x6, x7] (st) σ ρ g τ Q = AW d 179 63 [x0, x1, x2, x3, x4, .int v, x6, x7] (.int v :: st) σ ρ g τ Q := aw_lc m179 d179_61 rfl rfl rfl
theorem d179_63 : decode cX12_bestRate 63 = .ok (.if_icmp .le 11, 3) := by decide +kernel
theorem s179_63 {d : Nat} {st : List Value} {σ : am_I} {ρ : am_R} {g : am_J} {τ : am_T} {Q : am_Q} {x0 x1 x2 x3 x4 x5 x6 x7 : Value} {v w : Int32} : AW d 179 63 [x0, x1, x2, x3, x4, x5, x6, x7] (.int w :: .int v :: st) σ ρ g τ Q = if v ≤ w then AW d 179 74 [x0, x1, x2, x3, x4, x5, x6, x7] (st) σ ρ g τ Q else AW d 179 66 [x0, x1, x2, x3, x4, x5, x6, x7] (st) σ ρ g τ Q := aw_br m179 d179_63 rfl rfl rfl
theorem d179_66 : decode cX12_bestRate 66 = .ok (.iload 7, 2) := by decide +kernel
theorem s179_66 {d : Nat} {st : List Value} {σ : am_I} {ρ : am_R} {g : am_J} {τ : am_T} {Q : am_Q} {x0 x1 x2 x3 x4 x5 x6 : Value} {v : Int32} : AW d 179 66 [x0, x1, x2, x3, x4, x5, x6, .int v] (st) σ ρ g τ Q = AW d 179 68 [x0, x1, x2, x3, x4, x5, x6, .int v] (.int v :: st) σ ρ g τ Q := aw_lc m179 d179_66 rfl rfl rfl
theorem d179_68 : decode cX12_bestRate 68 = .ok (.istore 5, 2) := by decide +kernel
theorem s179_68 {d : Nat} {st : List Value} {σ : am_I} {ρ : am_R} {g : am_J} {τ : am_T} {Q : am_Q} {x0 x1 x2 x3 x5 x6 x7 : Value} {v : Int32} {u : Int32} : AW d 179 68 [x0, x1, x2, x3, .int u, x5, x6, x7] (.int v :: st) σ ρ g τ Q = AW d 179 70 [x0, x1, x2, x3, .int u, .int v, x6, x7] (st) σ ρ g τ Q := aw_lc m179 d179_68 rfl rfl rfl
theorem d179_70 : decode cX12_bestRate 70 = .ok (.iload 6, 2) := by decide +kernel
theorem s179_70 {d : Nat} {st : List Value} {σ : am_I} {ρ : am_R} {g : am_J} {τ : am_T} {Q : am_Q} {x0 x1 x2 x3 x4 x5 x7 : Value} {v : Int32} : AW d 179 70 [x0, x1, x2, x3, x4, x5, .int v, x7] (st) σ ρ g τ Q = AW d 179 72 [x0, x1, x2, x3, x4, x5, .int v, x7] (.int v :: st) σ ρ g τ Q := aw_lc m179 d179_70 rfl rfl rfl
theorem d179_72 : decode cX12_bestRate 72 = .ok (.istore 4, 2) := by decide +kernel
theorem s179_72 {d : Nat} {st : List Value} {σ : am_I} {ρ : am_R} {g : am_J} {τ : am_T} {Q : am_Q} {x0 x1 x2 x4 x5 x6 x7 : Value} {v : Int32} {u : Int32} : AW d 179 72 [x0, x1, x2, .int u, x4, x5, x6, x7] (.int v :: st) σ ρ g τ Q = AW d 179 74 [x0, x1, x2, .int u, .int v, x5, x6, x7] (st) σ ρ g τ Q := aw_lc m179 d179_72 rfl rfl rfl
theorem d179_74 : decode cX12_bestRate 74 = .ok (.iinc 6 1, 3) := by decide +kernel
theorem s179_74 {d : Nat} {st : List Value} {σ : am_I} {ρ : am_R} {g : am_J} {τ : am_T} {Q : am_Q} {x0 x1 x2 x3 x4 x7 : Value} {v : Int32} {u : Int32} : AW d 179 74 [x0, x1, x2, x3, x4, .int u, .int v, x7] (st) σ ρ g τ Q = AW d 179 77 [x0, x1, x2, x3, x4, .int u, .int (v + 1), x7] (st) σ ρ g τ Q := aw_lc m179 d179_74 rfl rfl rfl
theorem d179_77 : decode cX12_bestRate 77 = .ok (.goto (-35), 3) := by decide +kernel
theorem s179_77 {d : Nat} {st : List Value} {σ : am_I} {ρ : am_R} {g : am_J} {τ : am_T} {Q : am_Q} {x0 x1 x2 x3 x4 x5 x6 x7 : Value} : AW d 179 77 [x0, x1, x2, x3, x4, x5, x6, x7] (st) σ ρ g τ Q = AW d 179 42 [x0, x1, x2, x3, x4, x5, x6, x7] (st) σ ρ g τ Q := aw_lc m179 d179_77 rfl rfl rfl
theorem d179_80 : decode cX12_bestRate 80 = .ok (.iload_n 3, 1) := by decide +kernel
theorem s179_80 {d : Nat} {st : List Value} {σ : am_I} {ρ : am_R} {g : am_J} {τ : am_T} {Q : am_Q} {x0 x1 x2 x4 x5 x6 x7 : Value} {v : Int32} : AW d 179 80 [x0, x1, x2, .int v, x4, x5, x6, x7] (st) σ ρ g τ Q = AW d 179 81 [x0, x1, x2, .int v, x4, x5, x6, x7] (.int v :: st) σ ρ g τ Q := aw_lc m179 d179_80 rfl rfl rfl
theorem d179_81 : decode cX12_bestRate 81 = .ok (.ifCond .ne 8, 3) := by decide +kernel
theorem s179_81 {d : Nat} {st : List Value} {σ : am_I} {ρ : am_R} {g : am_J} {τ : am_T} {Q : am_Q} {x0 x1 x2 x3 x4 x5 x6 x7 : Value} {v : Int32} : AW d 179 81 [x0, x1, x2, x3, x4, x5, x6, x7] (.int v :: st) σ ρ g τ Q = if ¬ v = 0 then AW d 179 89 [x0, x1, x2, x3, x4, x5, x6, x7] (st) σ ρ g τ Q else AW d 179 84 [x0, x1, x2, x3, x4, x5, x6, x7] (st) σ ρ g τ Q := aw_br m179 d179_81 rfl rfl rfl
theorem d179_84 : decode cX12_bestRate 84 = .ok (.iload 4, 2) := by decide +kernel
theorem s179_84 {d : Nat} {st : List Value} {σ : am_I} {ρ : am_R} {g : am_J} {τ : am_T} {Q : am_Q} {x0 x1 x2 x3 x5 x6 x7 : Value} {v : Int32} : AW d 179 84 [x0, x1, x2, x3, .int v, x5, x6, x7] (st) σ ρ g τ Q = AW d 179 86 [x0, x1, x2, x3, .int v, x5, x6, x7] (.int v :: st) σ ρ g τ Q := aw_lc m179 d179_84 rfl rfl rfl
theorem d179_86 : decode cX12_bestRate 86 = .ok (.goto 5, 3) := by decide +kernel
theorem s179_86 {d : Nat} {st : List Value} {σ : am_I} {ρ : am_R} {g : am_J} {τ : am_T} {Q : am_Q} {x0 x1 x2 x3 x4 x5 x6 x7 : Value} : AW d 179 86 [x0, x1, x2, x3, x4, x5, x6, x7] (st) σ ρ g τ Q = AW d 179 91 [x0, x1, x2, x3, x4, x5, x6, x7] (st) σ ρ g τ Q := aw_lc m179 d179_86 rfl rfl rfl
theorem d179_89 : decode cX12_bestRate 89 = .ok (.iload 5, 2) := by decide +kernel
theorem s179_89 {d : Nat} {st : List Value} {σ : am_I} {ρ : am_R} {g : am_J} {τ : am_T} {Q : am_Q} {x0 x1 x2 x3 x4 x6 x7 : Value} {v : Int32} : AW d 179 89 [x0, x1, x2, x3, x4, .int v, x6, x7] (st) σ ρ g τ Q = AW d 179 91 [x0, x1, x2, x3, x4, .int v, x6, x7] (.int v :: st) σ ρ g τ Q := aw_lc m179 d179_89 rfl rfl rfl
theorem d179_91 : decode cX12_bestRate 91 = .ok (.ireturn, 1) := by decide +kernel
theorem s179_91 {d : Nat} {σ : am_I} {ρ : am_R} {g : am_J} {τ : am_T} {Q : am_Q} {x0 x1 x2 x3 x4 x5 x6 x7 : Value} {v : Int32} : AW d 179 91 [x0, x1, x2, x3, x4, x5, x6, x7] ([.int v]) σ ρ g τ Q = Q (some (.int v)) σ ρ g τ := aw_ri m179 d179_91 rfl
theorem d180_0 : decode cX12_goesRound 0 = .ok (.iconst 0, 1) := by decide +kernel
theorem s180_0 {d : Nat} {st : List Value} {σ : am_I} {ρ : am_R} {g : am_J} {τ : am_T} {Q : am_Q} {x0 x1 x2 x3 x4 x5 : Value} : AW d 180 0 [x0, x1, x2, x3, x4, x5] (st) σ ρ g τ Q = AW d 180 1 [x0, x1, x2, x3, x4, x5] (.int 0 :: st) σ ρ g τ Q := aw_lc m180 d180_0 rfl rfl rfl
theorem d180_1 : decode cX12_goesRound 1 = .ok (.istore 4, 2) := by decide +kernel
theorem s180_1 {d : Nat} {st : List Value} {σ : am_I} {ρ : am_R} {g : am_J} {τ : am_T} {Q : am_Q} {x0 x1 x2 x4 x5 : Value} {v : Int32} {u : Int32} : AW d 180 1 [x0, x1, x2, .int u, x4, x5] (.int v :: st) σ ρ g τ Q = AW d 180 3 [x0, x1, x2, .int u, .int v, x5] (st) σ ρ g τ Q := aw_lc m180 d180_1 rfl rfl rfl
theorem d180_3 : decode cX12_goesRound 3 = .ok (.iconst 0, 1) := by decide +kernel
theorem s180_3 {d : Nat} {st : List Value} {σ : am_I} {ρ : am_R} {g : am_J} {τ : am_T} {Q : am_Q} {x0 x1 x2 x3 x4 x5 : Value} : AW d 180 3 [x0, x1, x2, x3, x4, x5] (st) σ ρ g τ Q = AW d 180 4 [x0, x1, x2, x3, x4, x5] (.int 0 :: st) σ ρ g τ Q := aw_lc m180 d180_3 rfl rfl rfl
theorem d180_4 : decode cX12_goesRound 4 = .ok (.istore 5, 2) := by decide +kernel
theorem s180_4 {d : Nat} {st : List Value} {σ : am_I} {ρ : am_R} {g : am_J} {τ : am_T} {Q : am_Q} {x0 x1 x2 x3 x5 : Value} {v : Int32} {u : Int32} : AW d 180 4 [x0, x1, x2, x3, .int u, x5] (.int v :: st) σ ρ g τ Q = AW d 180 6 [x0, x1, x2, x3, .int u, .int v] (st) σ ρ g τ Q := aw_lc m180 d180_4 rfl rfl rfl
theorem d180_6 : decode cX12_goesRound 6 = .ok (.iload 5, 2) := by decide +kernel
theorem s180_6 {d : Nat} {st : List Value} {σ : am_I} {ρ : am_R} {g : am_J} {τ : am_T} {Q : am_Q} {x0 x1 x2 x3 x4 : Value} {v : Int32} : AW d 180 6 [x0, x1, x2, x3, x4, .int v] (st) σ ρ g τ Q = AW d 180 8 [x0, x1, x2, x3, x4, .int v] (.int v :: st) σ ρ g τ Q := aw_lc m180 d180_6 rfl rfl rfl
theorem d180_8 : decode cX12_goesRound 8 = .ok (.iconst 3, 1) := by decide +kernel
theorem s180_8 {d : Nat} {st : List Value} {σ : am_I} {ρ : am_R} {g : am_J} {τ : am_T} {Q : am_Q} {x0 x1 x2 x3 x4 x5 : Value} : AW d 180 8 [x0, x1, x2, x3, x4, x5] (st) σ ρ g τ Q = AW d 180 9 [x0, x1, x2, x3, x4, x5] (.int 3 :: st) σ ρ g τ Q := aw_lc m180 d180_8 rfl rfl rfl
theorem d180_9 : decode cX12_goesRound 9 = .ok (.if_icmp .ge 30, 3) := by decide +kernel
theorem s180_9 {d : Nat} {st : List Value} {σ : am_I} {ρ : am_R} {g : am_J} {τ : am_T} {Q : am_Q} {x0 x1 x2 x3 x4 x5 : Value} {v w : Int32} : AW d 180 9 [x0, x1, x2, x3, x4, x5] (.int w :: .int v :: st) σ ρ g τ Q = if w ≤ v then AW d 180 39 [x0, x1, x2, x3, x4, x5] (st) σ ρ g τ Q else AW d 180 12 [x0, x1, x2, x3, x4, x5] (st) σ ρ g τ Q := aw_br m180 d180_9 rfl rfl rfl
theorem d180_12 : decode cX12_goesRound 12 = .ok (.iload 4, 2) := by decide +kernel
theorem s180_12 {d : Nat} {st : List Value} {σ : am_I} {ρ : am_R} {g : am_J} {τ : am_T} {Q : am_Q} {x0 x1 x2 x3 x5 : Value} {v : Int32} : AW d 180 12 [x0, x1, x2, x3, .int v, x5] (st) σ ρ g τ Q = AW d 180 14 [x0, x1, x2, x3, .int v, x5] (.int v :: st) σ ρ g τ Q := aw_lc m180 d180_12 rfl rfl rfl
theorem d180_14 : decode cX12_goesRound 14 = .ok (.aload_n 0, 1) := by decide +kernel
theorem s180_14 {d : Nat} {st : List Value} {σ : am_I} {ρ : am_R} {g : am_J} {τ : am_T} {Q : am_Q} {x1 x2 x3 x4 x5 : Value} {v : Nat} : AW d 180 14 [.ref v, x1, x2, x3, x4, x5] (st) σ ρ g τ Q = AW d 180 15 [.ref v, x1, x2, x3, x4, x5] (.ref v :: st) σ ρ g τ Q := aw_lc m180 d180_14 rfl rfl rfl
theorem d180_15 : decode cX12_goesRound 15 = .ok (.iload_n 1, 1) := by decide +kernel
theorem s180_15 {d : Nat} {st : List Value} {σ : am_I} {ρ : am_R} {g : am_J} {τ : am_T} {Q : am_Q} {x0 x2 x3 x4 x5 : Value} {v : Int32} : AW d 180 15 [x0, .int v, x2, x3, x4, x5] (st) σ ρ g τ Q = AW d 180 16 [x0, .int v, x2, x3, x4, x5] (.int v :: st) σ ρ g τ Q := aw_lc m180 d180_15 rfl rfl rfl
theorem d180_16 : decode cX12_goesRound 16 = .ok (.iload 5, 2) := by decide +kernel
theorem s180_16 {d : Nat} {st : List Value} {σ : am_I} {ρ : am_R} {g : am_J} {τ : am_T} {Q : am_Q} {x0 x1 x2 x3 x4 : Value} {v : Int32} : AW d 180 16 [x0, x1, x2, x3, x4, .int v] (st) σ ρ g τ Q = AW d 180 18 [x0, x1, x2, x3, x4, .int v] (.int v :: st) σ ρ g τ Q := aw_lc m180 d180_16 rfl rfl rfl
theorem d180_18 : decode cX12_goesRound 18 = .ok (.iload_n 2, 1) := by decide +kernel
theorem s180_18 {d : Nat} {st : List Value} {σ : am_I} {ρ : am_R} {g : am_J} {τ : am_T} {Q : am_Q} {x0 x1 x3 x4 x5 : Value} {v : Int32} : AW d 180 18 [x0, x1, .int v, x3, x4, x5] (st) σ ρ g τ Q = AW d 180 19 [x0, x1, .int v, x3, x4, x5] (.int v :: st) σ ρ g τ Q := aw_lc m180 d180_18 rfl rfl rfl
theorem d180_19 : decode cX12_goesRound 19 = .ok (.aload_n 0, 1) := by decide +kernel
theorem s180_19 {d : Nat} {st : List Value} {σ : am_I} {ρ : am_R} {g : am_J} {τ : am_T} {Q : am_Q} {x1 x2 x3 x4 x5 : Value} {v : Nat} : AW d 180 19 [.ref v, x1, x2, x3, x4, x5] (st) σ ρ g τ Q = AW d 180 20 [.ref v, x1, x2, x3, x4, x5] (.ref v :: st) σ ρ g τ Q := aw_lc m180 d180_19 rfl rfl rfl
theorem d180_20 : decode cX12_goesRound 20 = .ok (.getfield 13, 3) := by decide +kernel
theorem s180_20 {d : Nat} {st : List Value} {σ : am_I} {ρ : am_R} {g : am_J} {τ : am_T} {Q : am_Q} {x0 x1 x2 x3 x4 x5 : Value} {a : Nat} (ht : τ.1 a = 12) : AW d 180 20 [x0, x1, x2, x3, x4, x5] (.ref a :: st) σ ρ g τ Q = AW d 180 23 [x0, x1, x2, x3, x4, x5] (va_rf (ρ a 1) :: st) σ ρ g τ Q := aw_gr m180 d180_20 rfl rfl rfl ht
theorem d180_23 : decode cX12_goesRound 23 = .ok (.iload 5, 2) := by decide +kernel
theorem s180_23 {d : Nat} {st : List Value} {σ : am_I} {ρ : am_R} {g : am_J} {τ : am_T} {Q : am_Q} {x0 x1 x2 x3 x4 : Value} {v : Int32} : AW d 180 23 [x0, x1, x2, x3, x4, .int v] (st) σ ρ g τ Q = AW d 180 25 [x0, x1, x2, x3, x4, .int v] (.int v :: st) σ ρ g τ Q := aw_lc m180 d180_23 rfl rfl rfl
theorem d180_25 : decode cX12_goesRound 25 = .ok (.iaload, 1) := by decide +kernel
theorem s180_25 {d : Nat} {st : List Value} {σ : am_I} {ρ : am_R} {g : am_J} {τ : am_T} {Q : am_Q} {x0 x1 x2 x3 x4 x5 : Value} {a : Nat} {j : Int32} (ht : τ.1 a = 15) (hj : am_inb j (τ.2.1 a) = true) : AW d 180 25 [x0, x1, x2, x3, x4, x5] (.int j :: .ref a :: st) σ ρ g τ Q = AW d 180 26 [x0, x1, x2, x3, x4, x5] (.int (σ a j.toNatClampNeg) :: st) σ ρ g τ Q := aw_ial m180 d180_25 rfl ht hj
theorem d180_26 : decode cX12_goesRound 26 = .ok (.iload_n 3, 1) := by decide +kernel
theorem s180_26 {d : Nat} {st : List Value} {σ : am_I} {ρ : am_R} {g : am_J} {τ : am_T} {Q : am_Q} {x0 x1 x2 x4 x5 : Value} {v : Int32} : AW d 180 26 [x0, x1, x2, .int v, x4, x5] (st) σ ρ g τ Q = AW d 180 27 [x0, x1, x2, .int v, x4, x5] (.int v :: st) σ ρ g τ Q := aw_lc m180 d180_26 rfl rfl rfl
theorem d180_27 : decode cX12_goesRound 27 = .ok (.invokevirtual 206, 3) := by decide +kernel
theorem s180_27 {d : Nat} {st : List Value} {σ : am_I} {ρ : am_R} {g : am_J} {τ : am_T} {Q : am_Q} {x0 x1 x2 x3 x4 x5 : Value} {p0 : Nat} {p1 : Int32} {p2 : Int32} {p3 : Int32} {p4 : Int32} {p5 : Int32} (ht : τ.1 p0 = 12) (hs : st.length ≤ 4) : AW (d + 1) 180 27 [x0, x1, x2, x3, x4, x5] (.int p5 :: .int p4 :: .int p3 :: .int p2 :: .int p1 :: .ref p0 :: st) σ ρ g τ Q = AW d 170 0 [.ref p0, .int p1, .int p2, .int p3, .int p4, .int p5] [] σ ρ g τ (fun r9 σ ρ g τ => AW (d + 1) 180 30 [x0, x1, x2, x3, x4, x5] (r9.toList ++ st) σ ρ g τ Q) := aw_cv m180 d180_27 rfl m170 rfl rfl (by decide) en170 ok170 rfl ht hs
theorem d180_30 : decode cX12_goesRound 30 = .ok (.iadd, 1) := by decide +kernel
theorem s180_30 {d : Nat} {st : List Value} {σ : am_I} {ρ : am_R} {g : am_J} {τ : am_T} {Q : am_Q} {x0 x1 x2 x3 x4 x5 : Value} {v w : Int32} : AW d 180 30 [x0, x1, x2, x3, x4, x5] (.int w :: .int v :: st) σ ρ g τ Q = AW d 180 31 [x0, x1, x2, x3, x4, x5] (.int (v + w) :: st) σ ρ g τ Q := aw_lc m180 d180_30 rfl rfl rfl
theorem d180_31 : decode cX12_goesRound 31 = .ok (.istore 4, 2) := by decide +kernel
theorem s180_31 {d : Nat} {st : List Value} {σ : am_I} {ρ : am_R} {g : am_J} {τ : am_T} {Q : am_Q} {x0 x1 x2 x4 x5 : Value} {v : Int32} {u : Int32} : AW d 180 31 [x0, x1, x2, .int u, x4, x5] (.int v :: st) σ ρ g τ Q = AW d 180 33 [x0, x1, x2, .int u, .int v, x5] (st) σ ρ g τ Q := aw_lc m180 d180_31 rfl rfl rfl
theorem d180_33 : decode cX12_goesRound 33 = .ok (.iinc 5 1, 3) := by decide +kernel
theorem s180_33 {d : Nat} {st : List Value} {σ : am_I} {ρ : am_R} {g : am_J} {τ : am_T} {Q : am_Q} {x0 x1 x2 x3 : Value} {v : Int32} {u : Int32} : AW d 180 33 [x0, x1, x2, x3, .int u, .int v] (st) σ ρ g τ Q = AW d 180 36 [x0, x1, x2, x3, .int u, .int (v + 1)] (st) σ ρ g τ Q := aw_lc m180 d180_33 rfl rfl rfl
theorem d180_36 : decode cX12_goesRound 36 = .ok (.goto (-30), 3) := by decide +kernel
theorem s180_36 {d : Nat} {st : List Value} {σ : am_I} {ρ : am_R} {g : am_J} {τ : am_T} {Q : am_Q} {x0 x1 x2 x3 x4 x5 : Value} : AW d 180 36 [x0, x1, x2, x3, x4, x5] (st) σ ρ g τ Q = AW d 180 6 [x0, x1, x2, x3, x4, x5] (st) σ ρ g τ Q := aw_lc m180 d180_36 rfl rfl rfl
theorem d180_39 : decode cX12_goesRound 39 = .ok (.iload 4, 2) := by decide +kernel
theorem s180_39 {d : Nat} {st : List Value} {σ : am_I} {ρ : am_R} {g : am_J} {τ : am_T} {Q : am_Q} {x0 x1 x2 x3 x5 : Value} {v : Int32} : AW d 180 39 [x0, x1, x2, x3, .int v, x5] (st) σ ρ g τ Q = AW d 180 41 [x0, x1, x2, x3, .int v, x5] (.int v :: st) σ ρ g τ Q := aw_lc m180 d180_39 rfl rfl rfl
theorem d180_41 : decode cX12_goesRound 41 = .ok (.ireturn, 1) := by decide +kernel
theorem s180_41 {d : Nat} {σ : am_I} {ρ : am_R} {g : am_J} {τ : am_T} {Q : am_Q} {x0 x1 x2 x3 x4 x5 : Value} {v : Int32} : AW d 180 41 [x0, x1, x2, x3, x4, x5] ([.int v]) σ ρ g τ Q = Q (some (.int v)) σ ρ g τ := aw_ri m180 d180_41 rfl
theorem d181_0 : decode cX12_least 0 = .ok (.iload_n 1, 1) := by decide +kernel
theorem s181_0 {d : Nat} {st : List Value} {σ : am_I} {ρ : am_R} {g : am_J} {τ : am_T} {Q : am_Q} {x0 x2 x3 x4 x5 x6 : Value} {v : Int32} : AW d 181 0 [x0, .int v, x2, x3, x4, x5, x6] (st) σ ρ g τ Q = AW d 181 1 [x0, .int v, x2, x3, x4, x5, x6] (.int v :: st) σ ρ g τ Q := aw_lc m181 d181_0 rfl rfl rfl
theorem d181_1 : decode cX12_least 1 = .ok (.iconst 0, 1) := by decide +kernel
theorem s181_1 {d : Nat} {st : List Value} {σ : am_I} {ρ : am_R} {g : am_J} {τ : am_T} {Q : am_Q} {x0 x1 x2 x3 x4 x5 x6 : Value} : AW d 181 1 [x0, x1, x2, x3, x4, x5, x6] (st) σ ρ g τ Q = AW d 181 2 [x0, x1, x2, x3, x4, x5, x6] (.int 0 :: st) σ ρ g τ Q := aw_lc m181 d181_1 rfl rfl rfl
theorem d181_2 : decode cX12_least 2 = .ok (.bipush 40, 2) := by decide +kernel
theorem s181_2 {d : Nat} {st : List Value} {σ : am_I} {ρ : am_R} {g : am_J} {τ : am_T} {Q : am_Q} {x0 x1 x2 x3 x4 x5 x6 : Value} : AW d 181 2 [x0, x1, x2, x3, x4, x5, x6] (st) σ ρ g τ Q = AW d 181 4 [x0, x1, x2, x3, x4, x5, x6] (.int 40 :: st) σ ρ g τ Q := aw_lc m181 d181_2 rfl rfl rfl
theorem d181_4 : decode cX12_least 4 = .ok (.invokestatic 194, 3) := by decide +kernel
theorem s181_4 {d : Nat} {st : List Value} {σ : am_I} {ρ : am_R} {g : am_J} {τ : am_T} {Q : am_Q} {x0 x1 x2 x3 x4 x5 x6 : Value} {p0 : Int32} {p1 : Int32} {p2 : Int32} (hs : st.length ≤ 4) : AW (d + 1) 181 4 [x0, x1, x2, x3, x4, x5, x6] (.int p2 :: .int p1 :: .int p0 :: st) σ ρ g τ Q = AW d 165 0 [.int p0, .int p1, .int p2] [] σ ρ g τ (fun r9 σ ρ g τ => AW (d + 1) 181 7 [x0, x1, x2, x3, x4, x5, x6] (r9.toList ++ st) σ ρ g τ Q) := aw_cs m181 d181_4 rfl (by simp only [List.length_cons]; omega) rfl rfl en165 ok165 rfl hs
theorem d181_7 : decode cX12_least 7 = .ok (.ifCond .eq 24, 3) := by decide +kernel
theorem s181_7 {d : Nat} {st : List Value} {σ : am_I} {ρ : am_R} {g : am_J} {τ : am_T} {Q : am_Q} {x0 x1 x2 x3 x4 x5 x6 : Value} {v : Int32} : AW d 181 7 [x0, x1, x2, x3, x4, x5, x6] (.int v :: st) σ ρ g τ Q = if v = 0 then AW d 181 31 [x0, x1, x2, x3, x4, x5, x6] (st) σ ρ g τ Q else AW d 181 10 [x0, x1, x2, x3, x4, x5, x6] (st) σ ρ g τ Q := aw_br m181 d181_7 rfl rfl rfl
theorem d181_10 : decode cX12_least 10 = .ok (.iload_n 2, 1) := by decide +kernel
theorem s181_10 {d : Nat} {st : List Value} {σ : am_I} {ρ : am_R} {g : am_J} {τ : am_T} {Q : am_Q} {x0 x1 x3 x4 x5 x6 : Value} {v : Int32} : AW d 181 10 [x0, x1, .int v, x3, x4, x5, x6] (st) σ ρ g τ Q = AW d 181 11 [x0, x1, .int v, x3, x4, x5, x6] (.int v :: st) σ ρ g τ Q := aw_lc m181 d181_10 rfl rfl rfl
theorem d181_11 : decode cX12_least 11 = .ok (.invokestatic 216, 3) := by decide +kernel
theorem s181_11 {d : Nat} {st : List Value} {σ : am_I} {ρ : am_R} {g : am_J} {τ : am_T} {Q : am_Q} {x0 x1 x2 x3 x4 x5 x6 : Value} {p0 : Int32} (hs : st.length ≤ 4) : AW (d + 1) 181 11 [x0, x1, x2, x3, x4, x5, x6] (.int p0 :: st) σ ρ g τ Q = AW d 166 0 [.int p0] [] σ ρ g τ (fun r9 σ ρ g τ => AW (d + 1) 181 14 [x0, x1, x2, x3, x4, x5, x6] (r9.toList ++ st) σ ρ g τ Q) := aw_cs m181 d181_11 rfl (by simp only [List.length_cons]; omega) rfl rfl en166 ok166 rfl hs
theorem d181_14 : decode cX12_least 14 = .ok (.ifCond .eq 17, 3) := by decide +kernel
theorem s181_14 {d : Nat} {st : List Value} {σ : am_I} {ρ : am_R} {g : am_J} {τ : am_T} {Q : am_Q} {x0 x1 x2 x3 x4 x5 x6 : Value} {v : Int32} : AW d 181 14 [x0, x1, x2, x3, x4, x5, x6] (.int v :: st) σ ρ g τ Q = if v = 0 then AW d 181 31 [x0, x1, x2, x3, x4, x5, x6] (st) σ ρ g τ Q else AW d 181 17 [x0, x1, x2, x3, x4, x5, x6] (st) σ ρ g τ Q := aw_br m181 d181_14 rfl rfl rfl
theorem d181_17 : decode cX12_least 17 = .ok (.iload_n 3, 1) := by decide +kernel
theorem s181_17 {d : Nat} {st : List Value} {σ : am_I} {ρ : am_R} {g : am_J} {τ : am_T} {Q : am_Q} {x0 x1 x2 x4 x5 x6 : Value} {v : Int32} : AW d 181 17 [x0, x1, x2, .int v, x4, x5, x6] (st) σ ρ g τ Q = AW d 181 18 [x0, x1, x2, .int v, x4, x5, x6] (.int v :: st) σ ρ g τ Q := aw_lc m181 d181_17 rfl rfl rfl
theorem d181_18 : decode cX12_least 18 = .ok (.iconst (-1), 1) := by decide +kernel
theorem s181_18 {d : Nat} {st : List Value} {σ : am_I} {ρ : am_R} {g : am_J} {τ : am_T} {Q : am_Q} {x0 x1 x2 x3 x4 x5 x6 : Value} : AW d 181 18 [x0, x1, x2, x3, x4, x5, x6] (st) σ ρ g τ Q = AW d 181 19 [x0, x1, x2, x3, x4, x5, x6] (.int (-1) :: st) σ ρ g τ Q := aw_lc m181 d181_18 rfl rfl rfl
theorem d181_19 : decode cX12_least 19 = .ok (.if_icmp .eq 14, 3) := by decide +kernel
theorem s181_19 {d : Nat} {st : List Value} {σ : am_I} {ρ : am_R} {g : am_J} {τ : am_T} {Q : am_Q} {x0 x1 x2 x3 x4 x5 x6 : Value} {v w : Int32} : AW d 181 19 [x0, x1, x2, x3, x4, x5, x6] (.int w :: .int v :: st) σ ρ g τ Q = if v = w then AW d 181 33 [x0, x1, x2, x3, x4, x5, x6] (st) σ ρ g τ Q else AW d 181 22 [x0, x1, x2, x3, x4, x5, x6] (st) σ ρ g τ Q := aw_br m181 d181_19 rfl rfl rfl
theorem d181_22 : decode cX12_least 22 = .ok (.aload_n 0, 1) := by decide +kernel
theorem s181_22 {d : Nat} {st : List Value} {σ : am_I} {ρ : am_R} {g : am_J} {τ : am_T} {Q : am_Q} {x1 x2 x3 x4 x5 x6 : Value} {v : Nat} : AW d 181 22 [.ref v, x1, x2, x3, x4, x5, x6] (st) σ ρ g τ Q = AW d 181 23 [.ref v, x1, x2, x3, x4, x5, x6] (.ref v :: st) σ ρ g τ Q := aw_lc m181 d181_22 rfl rfl rfl
theorem d181_23 : decode cX12_least 23 = .ok (.iconst 1, 1) := by decide +kernel
theorem s181_23 {d : Nat} {st : List Value} {σ : am_I} {ρ : am_R} {g : am_J} {τ : am_T} {Q : am_Q} {x0 x1 x2 x3 x4 x5 x6 : Value} : AW d 181 23 [x0, x1, x2, x3, x4, x5, x6] (st) σ ρ g τ Q = AW d 181 24 [x0, x1, x2, x3, x4, x5, x6] (.int 1 :: st) σ ρ g τ Q := aw_lc m181 d181_23 rfl rfl rfl
theorem d181_24 : decode cX12_least 24 = .ok (.iload_n 3, 1) := by decide +kernel
theorem s181_24 {d : Nat} {st : List Value} {σ : am_I} {ρ : am_R} {g : am_J} {τ : am_T} {Q : am_Q} {x0 x1 x2 x4 x5 x6 : Value} {v : Int32} : AW d 181 24 [x0, x1, x2, .int v, x4, x5, x6] (st) σ ρ g τ Q = AW d 181 25 [x0, x1, x2, .int v, x4, x5, x6] (.int v :: st) σ ρ g τ Q := aw_lc m181 d181_24 rfl rfl rfl
theorem d181_25 : decode cX12_least 25 = .ok (.invokevirtual 210, 3) := by decide +kernel
theorem s181_25 {d : Nat} {st : List Value} {σ : am_I} {ρ : am_R} {g : am_J} {τ : am_T} {Q : am_Q} {x0 x1 x2 x3 x4 x5 x6 : Value} {p0 : Nat} {p1 : Int32} {p2 : Int32} (ht : τ.1 p0 = 12) (hs : st.length ≤ 4) : AW (d + 1) 181 25 [x0, x1, x2, x3, x4, x5, x6] (.int p2 :: .int p1 :: .ref p0 :: st) σ ρ g τ Q = AW d 167 0 [.ref p0, .int p1, .int p2] [] σ ρ g τ (fun r9 σ ρ g τ => AW (d + 1) 181 28 [x0, x1, x2, x3, x4, x5, x6] (r9.toList ++ st) σ ρ g τ Q) := aw_cv m181 d181_25 rfl m167 rfl rfl (by decide) en167 ok167 rfl ht hs
theorem d181_28 : decode cX12_least 28 = .ok (.ifCond .ne 5, 3) := by decide +kernel
theorem s181_28 {d : Nat} {st : List Value} {σ : am_I} {ρ : am_R} {g : am_J} {τ : am_T} {Q : am_Q} {x0 x1 x2 x3 x4 x5 x6 : Value} {v : Int32} : AW d 181 28 [x0, x1, x2, x3, x4, x5, x6] (.int v :: st) σ ρ g τ Q = if ¬ v = 0 then AW d 181 33 [x0, x1, x2, x3, x4, x5, x6] (st) σ ρ g τ Q else AW d 181 31 [x0, x1, x2, x3, x4, x5, x6] (st) σ ρ g τ Q := aw_br m181 d181_28 rfl rfl rfl
theorem d181_31 : decode cX12_least 31 = .ok (.iconst (-1), 1) := by decide +kernel
theorem s181_31 {d : Nat} {st : List Value} {σ : am_I} {ρ : am_R} {g : am_J} {τ : am_T} {Q : am_Q} {x0 x1 x2 x3 x4 x5 x6 : Value} : AW d 181 31 [x0, x1, x2, x3, x4, x5, x6] (st) σ ρ g τ Q = AW d 181 32 [x0, x1, x2, x3, x4, x5, x6] (.int (-1) :: st) σ ρ g τ Q := aw_lc m181 d181_31 rfl rfl rfl
theorem d181_32 : decode cX12_least 32 = .ok (.ireturn, 1) := by decide +kernel
theorem s181_32 {d : Nat} {σ : am_I} {ρ : am_R} {g : am_J} {τ : am_T} {Q : am_Q} {x0 x1 x2 x3 x4 x5 x6 : Value} {v : Int32} : AW d 181 32 [x0, x1, x2, x3, x4, x5, x6] ([.int v]) σ ρ g τ Q = Q (some (.int v)) σ ρ g τ := aw_ri m181 d181_32 rfl
theorem d181_33 : decode cX12_least 33 = .ok (.aload_n 0, 1) := by decide +kernel
theorem s181_33 {d : Nat} {st : List Value} {σ : am_I} {ρ : am_R} {g : am_J} {τ : am_T} {Q : am_Q} {x1 x2 x3 x4 x5 x6 : Value} {v : Nat} : AW d 181 33 [.ref v, x1, x2, x3, x4, x5, x6] (st) σ ρ g τ Q = AW d 181 34 [.ref v, x1, x2, x3, x4, x5, x6] (.ref v :: st) σ ρ g τ Q := aw_lc m181 d181_33 rfl rfl rfl
theorem d181_34 : decode cX12_least 34 = .ok (.getfield 9, 3) := by decide +kernel
theorem s181_34 {d : Nat} {st : List Value} {σ : am_I} {ρ : am_R} {g : am_J} {τ : am_T} {Q : am_Q} {x0 x1 x2 x3 x4 x5 x6 : Value} {a : Nat} (ht : τ.1 a = 12) : AW d 181 34 [x0, x1, x2, x3, x4, x5, x6] (.ref a :: st) σ ρ g τ Q = AW d 181 37 [x0, x1, x2, x3, x4, x5, x6] (va_rf (ρ a 0) :: st) σ ρ g τ Q := aw_gr m181 d181_34 rfl rfl rfl ht
theorem d181_37 : decode cX12_least 37 = .ok (.iconst 1, 1) := by decide +kernel
theorem s181_37 {d : Nat} {st : List Value} {σ : am_I} {ρ : am_R} {g : am_J} {τ : am_T} {Q : am_Q} {x0 x1 x2 x3 x4 x5 x6 : Value} : AW d 181 37 [x0, x1, x2, x3, x4, x5, x6] (st) σ ρ g τ Q = AW d 181 38 [x0, x1, x2, x3, x4, x5, x6] (.int 1 :: st) σ ρ g τ Q := aw_lc m181 d181_37 rfl rfl rfl
theorem d181_38 : decode cX12_least 38 = .ok (.iaload, 1) := by decide +kernel
theorem s181_38 {d : Nat} {st : List Value} {σ : am_I} {ρ : am_R} {g : am_J} {τ : am_T} {Q : am_Q} {x0 x1 x2 x3 x4 x5 x6 : Value} {a : Nat} {j : Int32} (ht : τ.1 a = 15) (hj : am_inb j (τ.2.1 a) = true) : AW d 181 38 [x0, x1, x2, x3, x4, x5, x6] (.int j :: .ref a :: st) σ ρ g τ Q = AW d 181 39 [x0, x1, x2, x3, x4, x5, x6] (.int (σ a j.toNatClampNeg) :: st) σ ρ g τ Q := aw_ial m181 d181_38 rfl ht hj
theorem d181_39 : decode cX12_least 39 = .ok (.istore 4, 2) := by decide +kernel
theorem s181_39 {d : Nat} {st : List Value} {σ : am_I} {ρ : am_R} {g : am_J} {τ : am_T} {Q : am_Q} {x0 x1 x2 x4 x5 x6 : Value} {v : Int32} {u : Int32} : AW d 181 39 [x0, x1, x2, .int u, x4, x5, x6] (.int v :: st) σ ρ g τ Q = AW d 181 41 [x0, x1, x2, .int u, .int v, x5, x6] (st) σ ρ g τ Q := aw_lc m181 d181_39 rfl rfl rfl
theorem d181_41 : decode cX12_least 41 = .ok (.iload 4, 2) := by decide +kernel
theorem s181_41 {d : Nat} {st : List Value} {σ : am_I} {ρ : am_R} {g : am_J} {τ : am_T} {Q : am_Q} {x0 x1 x2 x3 x5 x6 : Value} {v : Int32} : AW d 181 41 [x0, x1, x2, x3, .int v, x5, x6] (st) σ ρ g τ Q = AW d 181 43 [x0, x1, x2, x3, .int v, x5, x6] (.int v :: st) σ ρ g τ Q := aw_lc m181 d181_41 rfl rfl rfl
theorem d181_43 : decode cX12_least 43 = .ok (.istore 5, 2) := by decide +kernel
theorem s181_43 {d : Nat} {st : List Value} {σ : am_I} {ρ : am_R} {g : am_J} {τ : am_T} {Q : am_Q} {x0 x1 x2 x3 x5 x6 : Value} {v : Int32} {u : Int32} : AW d 181 43 [x0, x1, x2, x3, .int u, x5, x6] (.int v :: st) σ ρ g τ Q = AW d 181 45 [x0, x1, x2, x3, .int u, .int v, x6] (st) σ ρ g τ Q := aw_lc m181 d181_43 rfl rfl rfl
theorem d181_45 : decode cX12_least 45 = .ok (.iload 5, 2) := by decide +kernel
theorem s181_45 {d : Nat} {st : List Value} {σ : am_I} {ρ : am_R} {g : am_J} {τ : am_T} {Q : am_Q} {x0 x1 x2 x3 x4 x6 : Value} {v : Int32} : AW d 181 45 [x0, x1, x2, x3, x4, .int v, x6] (st) σ ρ g τ Q = AW d 181 47 [x0, x1, x2, x3, x4, .int v, x6] (.int v :: st) σ ρ g τ Q := aw_lc m181 d181_45 rfl rfl rfl
theorem d181_47 : decode cX12_least 47 = .ok (.ifCond .lt 66, 3) := by decide +kernel
theorem s181_47 {d : Nat} {st : List Value} {σ : am_I} {ρ : am_R} {g : am_J} {τ : am_T} {Q : am_Q} {x0 x1 x2 x3 x4 x5 x6 : Value} {v : Int32} : AW d 181 47 [x0, x1, x2, x3, x4, x5, x6] (.int v :: st) σ ρ g τ Q = if v < 0 then AW d 181 113 [x0, x1, x2, x3, x4, x5, x6] (st) σ ρ g τ Q else AW d 181 50 [x0, x1, x2, x3, x4, x5, x6] (st) σ ρ g τ Q := aw_br m181 d181_47 rfl rfl rfl
theorem d181_50 : decode cX12_least 50 = .ok (.iconst 0, 1) := by decide +kernel
theorem s181_50 {d : Nat} {st : List Value} {σ : am_I} {ρ : am_R} {g : am_J} {τ : am_T} {Q : am_Q} {x0 x1 x2 x3 x4 x5 x6 : Value} : AW d 181 50 [x0, x1, x2, x3, x4, x5, x6] (st) σ ρ g τ Q = AW d 181 51 [x0, x1, x2, x3, x4, x5, x6] (.int 0 :: st) σ ρ g τ Q := aw_lc m181 d181_50 rfl rfl rfl
theorem d181_51 : decode cX12_least 51 = .ok (.istore 6, 2) := by decide +kernel
theorem s181_51 {d : Nat} {st : List Value} {σ : am_I} {ρ : am_R} {g : am_J} {τ : am_T} {Q : am_Q} {x0 x1 x2 x3 x4 x6 : Value} {v : Int32} {u : Int32} : AW d 181 51 [x0, x1, x2, x3, x4, .int u, x6] (.int v :: st) σ ρ g τ Q = AW d 181 53 [x0, x1, x2, x3, x4, .int u, .int v] (st) σ ρ g τ Q := aw_lc m181 d181_51 rfl rfl rfl
theorem d181_53 : decode cX12_least 53 = .ok (.iload 6, 2) := by decide +kernel
theorem s181_53 {d : Nat} {st : List Value} {σ : am_I} {ρ : am_R} {g : am_J} {τ : am_T} {Q : am_Q} {x0 x1 x2 x3 x4 x5 : Value} {v : Int32} : AW d 181 53 [x0, x1, x2, x3, x4, x5, .int v] (st) σ ρ g τ Q = AW d 181 55 [x0, x1, x2, x3, x4, x5, .int v] (.int v :: st) σ ρ g τ Q := aw_lc m181 d181_53 rfl rfl rfl
theorem d181_55 : decode cX12_least 55 = .ok (.iload_n 1, 1) := by decide +kernel
theorem s181_55 {d : Nat} {st : List Value} {σ : am_I} {ρ : am_R} {g : am_J} {τ : am_T} {Q : am_Q} {x0 x2 x3 x4 x5 x6 : Value} {v : Int32} : AW d 181 55 [x0, .int v, x2, x3, x4, x5, x6] (st) σ ρ g τ Q = AW d 181 56 [x0, .int v, x2, x3, x4, x5, x6] (.int v :: st) σ ρ g τ Q := aw_lc m181 d181_55 rfl rfl rfl
theorem d181_56 : decode cX12_least 56 = .ok (.if_icmp .gt 51, 3) := by decide +kernel
theorem s181_56 {d : Nat} {st : List Value} {σ : am_I} {ρ : am_R} {g : am_J} {τ : am_T} {Q : am_Q} {x0 x1 x2 x3 x4 x5 x6 : Value} {v w : Int32} : AW d 181 56 [x0, x1, x2, x3, x4, x5, x6] (.int w :: .int v :: st) σ ρ g τ Q = if w < v then AW d 181 107 [x0, x1, x2, x3, x4, x5, x6] (st) σ ρ g τ Q else AW d 181 59 [x0, x1, x2, x3, x4, x5, x6] (st) σ ρ g τ Q := aw_br m181 d181_56 rfl rfl rfl
theorem d181_59 : decode cX12_least 59 = .ok (.aload_n 0, 1) := by decide +kernel
theorem s181_59 {d : Nat} {st : List Value} {σ : am_I} {ρ : am_R} {g : am_J} {τ : am_T} {Q : am_Q} {x1 x2 x3 x4 x5 x6 : Value} {v : Nat} : AW d 181 59 [.ref v, x1, x2, x3, x4, x5, x6] (st) σ ρ g τ Q = AW d 181 60 [.ref v, x1, x2, x3, x4, x5, x6] (.ref v :: st) σ ρ g τ Q := aw_lc m181 d181_59 rfl rfl rfl
theorem d181_60 : decode cX12_least 60 = .ok (.getfield 169, 3) := by decide +kernel
theorem s181_60 {d : Nat} {st : List Value} {σ : am_I} {ρ : am_R} {g : am_J} {τ : am_T} {Q : am_Q} {x0 x1 x2 x3 x4 x5 x6 : Value} {a : Nat} (ht : τ.1 a = 12) : AW d 181 60 [x0, x1, x2, x3, x4, x5, x6] (.ref a :: st) σ ρ g τ Q = AW d 181 63 [x0, x1, x2, x3, x4, x5, x6] (va_rf (ρ a 56) :: st) σ ρ g τ Q := aw_gr m181 d181_60 rfl rfl rfl ht
theorem d181_63 : decode cX12_least 63 = .ok (.bipush 41, 2) := by decide +kernel
theorem s181_63 {d : Nat} {st : List Value} {σ : am_I} {ρ : am_R} {g : am_J} {τ : am_T} {Q : am_Q} {x0 x1 x2 x3 x4 x5 x6 : Value} : AW d 181 63 [x0, x1, x2, x3, x4, x5, x6] (st) σ ρ g τ Q = AW d 181 65 [x0, x1, x2, x3, x4, x5, x6] (.int 41 :: st) σ ρ g τ Q := aw_lc m181 d181_63 rfl rfl rfl
theorem d181_65 : decode cX12_least 65 = .ok (.iload 5, 2) := by decide +kernel
theorem s181_65 {d : Nat} {st : List Value} {σ : am_I} {ρ : am_R} {g : am_J} {τ : am_T} {Q : am_Q} {x0 x1 x2 x3 x4 x6 : Value} {v : Int32} : AW d 181 65 [x0, x1, x2, x3, x4, .int v, x6] (st) σ ρ g τ Q = AW d 181 67 [x0, x1, x2, x3, x4, .int v, x6] (.int v :: st) σ ρ g τ Q := aw_lc m181 d181_65 rfl rfl rfl
theorem d181_67 : decode cX12_least 67 = .ok (.imul, 1) := by decide +kernel
theorem s181_67 {d : Nat} {st : List Value} {σ : am_I} {ρ : am_R} {g : am_J} {τ : am_T} {Q : am_Q} {x0 x1 x2 x3 x4 x5 x6 : Value} {v w : Int32} : AW d 181 67 [x0, x1, x2, x3, x4, x5, x6] (.int w :: .int v :: st) σ ρ g τ Q = AW d 181 68 [x0, x1, x2, x3, x4, x5, x6] (.int (v * w) :: st) σ ρ g τ Q := aw_lc m181 d181_67 rfl rfl rfl
theorem d181_68 : decode cX12_least 68 = .ok (.iload 6, 2) := by decide +kernel
theorem s181_68 {d : Nat} {st : List Value} {σ : am_I} {ρ : am_R} {g : am_J} {τ : am_T} {Q : am_Q} {x0 x1 x2 x3 x4 x5 : Value} {v : Int32} : AW d 181 68 [x0, x1, x2, x3, x4, x5, .int v] (st) σ ρ g τ Q = AW d 181 70 [x0, x1, x2, x3, x4, x5, .int v] (.int v :: st) σ ρ g τ Q := aw_lc m181 d181_68 rfl rfl rfl
theorem d181_70 : decode cX12_least 70 = .ok (.iadd, 1) := by decide +kernel
theorem s181_70 {d : Nat} {st : List Value} {σ : am_I} {ρ : am_R} {g : am_J} {τ : am_T} {Q : am_Q} {x0 x1 x2 x3 x4 x5 x6 : Value} {v w : Int32} : AW d 181 70 [x0, x1, x2, x3, x4, x5, x6] (.int w :: .int v :: st) σ ρ g τ Q = AW d 181 71 [x0, x1, x2, x3, x4, x5, x6] (.int (v + w) :: st) σ ρ g τ Q := aw_lc m181 d181_70 rfl rfl rfl
theorem d181_71 : decode cX12_least 71 = .ok (.iload 5, 2) := by decide +kernel
theorem s181_71 {d : Nat} {st : List Value} {σ : am_I} {ρ : am_R} {g : am_J} {τ : am_T} {Q : am_Q} {x0 x1 x2 x3 x4 x6 : Value} {v : Int32} : AW d 181 71 [x0, x1, x2, x3, x4, .int v, x6] (st) σ ρ g τ Q = AW d 181 73 [x0, x1, x2, x3, x4, .int v, x6] (.int v :: st) σ ρ g τ Q := aw_lc m181 d181_71 rfl rfl rfl
theorem d181_73 : decode cX12_least 73 = .ok (.iload 4, 2) := by decide +kernel
theorem s181_73 {d : Nat} {st : List Value} {σ : am_I} {ρ : am_R} {g : am_J} {τ : am_T} {Q : am_Q} {x0 x1 x2 x3 x5 x6 : Value} {v : Int32} : AW d 181 73 [x0, x1, x2, x3, .int v, x5, x6] (st) σ ρ g τ Q = AW d 181 75 [x0, x1, x2, x3, .int v, x5, x6] (.int v :: st) σ ρ g τ Q := aw_lc m181 d181_73 rfl rfl rfl
theorem d181_75 : decode cX12_least 75 = .ok (.if_icmp .ne 16, 3) := by decide +kernel
theorem s181_75 {d : Nat} {st : List Value} {σ : am_I} {ρ : am_R} {g : am_J} {τ : am_T} {Q : am_Q} {x0 x1 x2 x3 x4 x5 x6 : Value} {v w : Int32} : AW d 181 75 [x0, x1, x2, x3, x4, x5, x6] (.int w :: .int v :: st) σ ρ g τ Q = if ¬ v = w then AW d 181 91 [x0, x1, x2, x3, x4, x5, x6] (st) σ ρ g τ Q else AW d 181 78 [x0, x1, x2, x3, x4, x5, x6] (st) σ ρ g τ Q := aw_br m181 d181_75 rfl rfl rfl
theorem d181_78 : decode cX12_least 78 = .ok (.iload 6, 2) := by decide +kernel
theorem s181_78 {d : Nat} {st : List Value} {σ : am_I} {ρ : am_R} {g : am_J} {τ : am_T} {Q : am_Q} {x0 x1 x2 x3 x4 x5 : Value} {v : Int32} : AW d 181 78 [x0, x1, x2, x3, x4, x5, .int v] (st) σ ρ g τ Q = AW d 181 80 [x0, x1, x2, x3, x4, x5, .int v] (.int v :: st) σ ρ g τ Q := aw_lc m181 d181_78 rfl rfl rfl
theorem d181_80 : decode cX12_least 80 = .ok (.ifCond .ne 7, 3) := by decide +kernel
theorem s181_80 {d : Nat} {st : List Value} {σ : am_I} {ρ : am_R} {g : am_J} {τ : am_T} {Q : am_Q} {x0 x1 x2 x3 x4 x5 x6 : Value} {v : Int32} : AW d 181 80 [x0, x1, x2, x3, x4, x5, x6] (.int v :: st) σ ρ g τ Q = if ¬ v = 0 then AW d 181 87 [x0, x1, x2, x3, x4, x5, x6] (st) σ ρ g τ Q else AW d 181 83 [x0, x1, x2, x3, x4, x5, x6] (st) σ ρ g τ Q := aw_br m181 d181_80 rfl rfl rfl
theorem d181_83 : decode cX12_least 83 = .ok (.iconst 0, 1) := by decide +kernel
theorem s181_83 {d : Nat} {st : List Value} {σ : am_I} {ρ : am_R} {g : am_J} {τ : am_T} {Q : am_Q} {x0 x1 x2 x3 x4 x5 x6 : Value} : AW d 181 83 [x0, x1, x2, x3, x4, x5, x6] (st) σ ρ g τ Q = AW d 181 84 [x0, x1, x2, x3, x4, x5, x6] (.int 0 :: st) σ ρ g τ Q := aw_lc m181 d181_83 rfl rfl rfl
theorem d181_84 : decode cX12_least 84 = .ok (.goto 16, 3) := by decide +kernel
theorem s181_84 {d : Nat} {st : List Value} {σ : am_I} {ρ : am_R} {g : am_J} {τ : am_T} {Q : am_Q} {x0 x1 x2 x3 x4 x5 x6 : Value} : AW d 181 84 [x0, x1, x2, x3, x4, x5, x6] (st) σ ρ g τ Q = AW d 181 100 [x0, x1, x2, x3, x4, x5, x6] (st) σ ρ g τ Q := aw_lc m181 d181_84 rfl rfl rfl
theorem d181_87 : decode cX12_least 87 = .ok (.iconst (-1), 1) := by decide +kernel
theorem s181_87 {d : Nat} {st : List Value} {σ : am_I} {ρ : am_R} {g : am_J} {τ : am_T} {Q : am_Q} {x0 x1 x2 x3 x4 x5 x6 : Value} : AW d 181 87 [x0, x1, x2, x3, x4, x5, x6] (st) σ ρ g τ Q = AW d 181 88 [x0, x1, x2, x3, x4, x5, x6] (.int (-1) :: st) σ ρ g τ Q := aw_lc m181 d181_87 rfl rfl rfl
theorem d181_88 : decode cX12_least 88 = .ok (.goto 12, 3) := by decide +kernel
theorem s181_88 {d : Nat} {st : List Value} {σ : am_I} {ρ : am_R} {g : am_J} {τ : am_T} {Q : am_Q} {x0 x1 x2 x3 x4 x5 x6 : Value} : AW d 181 88 [x0, x1, x2, x3, x4, x5, x6] (st) σ ρ g τ Q = AW d 181 100 [x0, x1, x2, x3, x4, x5, x6] (st) σ ρ g τ Q := aw_lc m181 d181_88 rfl rfl rfl
theorem d181_91 : decode cX12_least 91 = .ok (.aload_n 0, 1) := by decide +kernel
theorem s181_91 {d : Nat} {st : List Value} {σ : am_I} {ρ : am_R} {g : am_J} {τ : am_T} {Q : am_Q} {x1 x2 x3 x4 x5 x6 : Value} {v : Nat} : AW d 181 91 [.ref v, x1, x2, x3, x4, x5, x6] (st) σ ρ g τ Q = AW d 181 92 [.ref v, x1, x2, x3, x4, x5, x6] (.ref v :: st) σ ρ g τ Q := aw_lc m181 d181_91 rfl rfl rfl
theorem d181_92 : decode cX12_least 92 = .ok (.iload 5, 2) := by decide +kernel
theorem s181_92 {d : Nat} {st : List Value} {σ : am_I} {ρ : am_R} {g : am_J} {τ : am_T} {Q : am_Q} {x0 x1 x2 x3 x4 x6 : Value} {v : Int32} : AW d 181 92 [x0, x1, x2, x3, x4, .int v, x6] (st) σ ρ g τ Q = AW d 181 94 [x0, x1, x2, x3, x4, .int v, x6] (.int v :: st) σ ρ g τ Q := aw_lc m181 d181_92 rfl rfl rfl
theorem d181_94 : decode cX12_least 94 = .ok (.iload 6, 2) := by decide +kernel
theorem s181_94 {d : Nat} {st : List Value} {σ : am_I} {ρ : am_R} {g : am_J} {τ : am_T} {Q : am_Q} {x0 x1 x2 x3 x4 x5 : Value} {v : Int32} : AW d 181 94 [x0, x1, x2, x3, x4, x5, .int v] (st) σ ρ g τ Q = AW d 181 96 [x0, x1, x2, x3, x4, x5, .int v] (.int v :: st) σ ρ g τ Q := aw_lc m181 d181_94 rfl rfl rfl
theorem d181_96 : decode cX12_least 96 = .ok (.iload_n 2, 1) := by decide +kernel
theorem s181_96 {d : Nat} {st : List Value} {σ : am_I} {ρ : am_R} {g : am_J} {τ : am_T} {Q : am_Q} {x0 x1 x3 x4 x5 x6 : Value} {v : Int32} : AW d 181 96 [x0, x1, .int v, x3, x4, x5, x6] (st) σ ρ g τ Q = AW d 181 97 [x0, x1, .int v, x3, x4, x5, x6] (.int v :: st) σ ρ g τ Q := aw_lc m181 d181_96 rfl rfl rfl
theorem d181_97 : decode cX12_least 97 = .ok (.invokevirtual 223, 3) := by decide +kernel
theorem s181_97 {d : Nat} {st : List Value} {σ : am_I} {ρ : am_R} {g : am_J} {τ : am_T} {Q : am_Q} {x0 x1 x2 x3 x4 x5 x6 : Value} {p0 : Nat} {p1 : Int32} {p2 : Int32} {p3 : Int32} (ht : τ.1 p0 = 12) (hs : st.length ≤ 4) : AW (d + 1) 181 97 [x0, x1, x2, x3, x4, x5, x6] (.int p3 :: .int p2 :: .int p1 :: .ref p0 :: st) σ ρ g τ Q = AW d 182 0 [.ref p0, .int p1, .int p2, .int p3, am_jk, am_jk, am_jk, am_jk] [] σ ρ g τ (fun r9 σ ρ g τ => AW (d + 1) 181 100 [x0, x1, x2, x3, x4, x5, x6] (r9.toList ++ st) σ ρ g τ Q) := aw_cv m181 d181_97 rfl m182 rfl rfl (by decide) en182 ok182 rfl ht hs
theorem d181_100 : decode cX12_least 100 = .ok (.iastore, 1) := by decide +kernel
theorem s181_100 {d : Nat} {st : List Value} {σ : am_I} {ρ : am_R} {g : am_J} {τ : am_T} {Q : am_Q} {x0 x1 x2 x3 x4 x5 x6 : Value} {a : Nat} {j v : Int32} (ht : τ.1 a = 15) (ha : a < am_BG) (hj : am_inb j (τ.2.1 a) = true) : AW d 181 100 [x0, x1, x2, x3, x4, x5, x6] (.int v :: .int j :: .ref a :: st) σ ρ g τ Q = AW d 181 101 [x0, x1, x2, x3, x4, x5, x6] (st) (am_u σ a j.toNatClampNeg v) ρ g τ Q := aw_ias m181 d181_100 rfl ht ha hj
theorem d181_101 : decode cX12_least 101 = .ok (.iinc 6 1, 3) := by decide +kernel
theorem s181_101 {d : Nat} {st : List Value} {σ : am_I} {ρ : am_R} {g : am_J} {τ : am_T} {Q : am_Q} {x0 x1 x2 x3 x4 : Value} {v : Int32} {u : Int32} : AW d 181 101 [x0, x1, x2, x3, x4, .int u, .int v] (st) σ ρ g τ Q = AW d 181 104 [x0, x1, x2, x3, x4, .int u, .int (v + 1)] (st) σ ρ g τ Q := aw_lc m181 d181_101 rfl rfl rfl
theorem d181_104 : decode cX12_least 104 = .ok (.goto (-51), 3) := by decide +kernel
theorem s181_104 {d : Nat} {st : List Value} {σ : am_I} {ρ : am_R} {g : am_J} {τ : am_T} {Q : am_Q} {x0 x1 x2 x3 x4 x5 x6 : Value} : AW d 181 104 [x0, x1, x2, x3, x4, x5, x6] (st) σ ρ g τ Q = AW d 181 53 [x0, x1, x2, x3, x4, x5, x6] (st) σ ρ g τ Q := aw_lc m181 d181_104 rfl rfl rfl
theorem d181_107 : decode cX12_least 107 = .ok (.iinc 5 (-1), 3) := by decide +kernel
theorem s181_107 {d : Nat} {st : List Value} {σ : am_I} {ρ : am_R} {g : am_J} {τ : am_T} {Q : am_Q} {x0 x1 x2 x3 x6 : Value} {v : Int32} {u : Int32} : AW d 181 107 [x0, x1, x2, x3, .int u, .int v, x6] (st) σ ρ g τ Q = AW d 181 110 [x0, x1, x2, x3, .int u, .int (v + (-1)), x6] (st) σ ρ g τ Q := aw_lc m181 d181_107 rfl rfl rfl
theorem d181_110 : decode cX12_least 110 = .ok (.goto (-65), 3) := by decide +kernel
theorem s181_110 {d : Nat} {st : List Value} {σ : am_I} {ρ : am_R} {g : am_J} {τ : am_T} {Q : am_Q} {x0 x1 x2 x3 x4 x5 x6 : Value} : AW d 181 110 [x0, x1, x2, x3, x4, x5, x6] (st) σ ρ g τ Q = AW d 181 45 [x0, x1, x2, x3, x4, x5, x6] (st) σ ρ g τ Q := aw_lc m181 d181_110 rfl rfl rfl
theorem d181_113 : decode cX12_least 113 = .ok (.iconst 0, 1) := by decide +kernel
theorem s181_113 {d : Nat} {st : List Value} {σ : am_I} {ρ : am_R} {g : am_J} {τ : am_T} {Q : am_Q} {x0 x1 x2 x3 x4 x5 x6 : Value} : AW d 181 113 [x0, x1, x2, x3, x4, x5, x6] (st) σ ρ g τ Q = AW d 181 114 [x0, x1, x2, x3, x4, x5, x6] (.int 0 :: st) σ ρ g τ Q := aw_lc m181 d181_113 rfl rfl rfl
theorem d181_114 : decode cX12_least 114 = .ok (.istore 5, 2) := by decide +kernel
theorem s181_114 {d : Nat} {st : List Value} {σ : am_I} {ρ : am_R} {g : am_J} {τ : am_T} {Q : am_Q} {x0 x1 x2 x3 x5 x6 : Value} {v : Int32} {u : Int32} : AW d 181 114 [x0, x1, x2, x3, .int u, x5, x6] (.int v :: st) σ ρ g τ Q = AW d 181 116 [x0, x1, x2, x3, .int u, .int v, x6] (st) σ ρ g τ Q := aw_lc m181 d181_114 rfl rfl rfl
theorem d181_116 : decode cX12_least 116 = .ok (.iconst 1, 1) := by decide +kernel
theorem s181_116 {d : Nat} {st : List Value} {σ : am_I} {ρ : am_R} {g : am_J} {τ : am_T} {Q : am_Q} {x0 x1 x2 x3 x4 x5 x6 : Value} : AW d 181 116 [x0, x1, x2, x3, x4, x5, x6] (st) σ ρ g τ Q = AW d 181 117 [x0, x1, x2, x3, x4, x5, x6] (.int 1 :: st) σ ρ g τ Q := aw_lc m181 d181_116 rfl rfl rfl
theorem d181_117 : decode cX12_least 117 = .ok (.istore 6, 2) := by decide +kernel
theorem s181_117 {d : Nat} {st : List Value} {σ : am_I} {ρ : am_R} {g : am_J} {τ : am_T} {Q : am_Q} {x0 x1 x2 x3 x4 x6 : Value} {v : Int32} {u : Int32} : AW d 181 117 [x0, x1, x2, x3, x4, .int u, x6] (.int v :: st) σ ρ g τ Q = AW d 181 119 [x0, x1, x2, x3, x4, .int u, .int v] (st) σ ρ g τ Q := aw_lc m181 d181_117 rfl rfl rfl
theorem d181_119 : decode cX12_least 119 = .ok (.iload 6, 2) := by decide +kernel
theorem s181_119 {d : Nat} {st : List Value} {σ : am_I} {ρ : am_R} {g : am_J} {τ : am_T} {Q : am_Q} {x0 x1 x2 x3 x4 x5 : Value} {v : Int32} : AW d 181 119 [x0, x1, x2, x3, x4, x5, .int v] (st) σ ρ g τ Q = AW d 181 121 [x0, x1, x2, x3, x4, x5, .int v] (.int v :: st) σ ρ g τ Q := aw_lc m181 d181_119 rfl rfl rfl
theorem d181_121 : decode cX12_least 121 = .ok (.iload_n 1, 1) := by decide +kernel
theorem s181_121 {d : Nat} {st : List Value} {σ : am_I} {ρ : am_R} {g : am_J} {τ : am_T} {Q : am_Q} {x0 x2 x3 x4 x5 x6 : Value} {v : Int32} : AW d 181 121 [x0, .int v, x2, x3, x4, x5, x6] (st) σ ρ g τ Q = AW d 181 122 [x0, .int v, x2, x3, x4, x5, x6] (.int v :: st) σ ρ g τ Q := aw_lc m181 d181_121 rfl rfl rfl
theorem d181_122 : decode cX12_least 122 = .ok (.if_icmp .gt 40, 3) := by decide +kernel
theorem s181_122 {d : Nat} {st : List Value} {σ : am_I} {ρ : am_R} {g : am_J} {τ : am_T} {Q : am_Q} {x0 x1 x2 x3 x4 x5 x6 : Value} {v w : Int32} : AW d 181 122 [x0, x1, x2, x3, x4, x5, x6] (.int w :: .int v :: st) σ ρ g τ Q = if w < v then AW d 181 162 [x0, x1, x2, x3, x4, x5, x6] (st) σ ρ g τ Q else AW d 181 125 [x0, x1, x2, x3, x4, x5, x6] (st) σ ρ g τ Q := aw_br m181 d181_122 rfl rfl rfl
theorem d181_125 : decode cX12_least 125 = .ok (.aload_n 0, 1) := by decide +kernel
theorem s181_125 {d : Nat} {st : List Value} {σ : am_I} {ρ : am_R} {g : am_J} {τ : am_T} {Q : am_Q} {x1 x2 x3 x4 x5 x6 : Value} {v : Nat} : AW d 181 125 [.ref v, x1, x2, x3, x4, x5, x6] (st) σ ρ g τ Q = AW d 181 126 [.ref v, x1, x2, x3, x4, x5, x6] (.ref v :: st) σ ρ g τ Q := aw_lc m181 d181_125 rfl rfl rfl
theorem d181_126 : decode cX12_least 126 = .ok (.getfield 169, 3) := by decide +kernel
theorem s181_126 {d : Nat} {st : List Value} {σ : am_I} {ρ : am_R} {g : am_J} {τ : am_T} {Q : am_Q} {x0 x1 x2 x3 x4 x5 x6 : Value} {a : Nat} (ht : τ.1 a = 12) : AW d 181 126 [x0, x1, x2, x3, x4, x5, x6] (.ref a :: st) σ ρ g τ Q = AW d 181 129 [x0, x1, x2, x3, x4, x5, x6] (va_rf (ρ a 56) :: st) σ ρ g τ Q := aw_gr m181 d181_126 rfl rfl rfl ht
theorem d181_129 : decode cX12_least 129 = .ok (.iload 6, 2) := by decide +kernel
theorem s181_129 {d : Nat} {st : List Value} {σ : am_I} {ρ : am_R} {g : am_J} {τ : am_T} {Q : am_Q} {x0 x1 x2 x3 x4 x5 : Value} {v : Int32} : AW d 181 129 [x0, x1, x2, x3, x4, x5, .int v] (st) σ ρ g τ Q = AW d 181 131 [x0, x1, x2, x3, x4, x5, .int v] (.int v :: st) σ ρ g τ Q := aw_lc m181 d181_129 rfl rfl rfl
theorem d181_131 : decode cX12_least 131 = .ok (.iaload, 1) := by decide +kernel
theorem s181_131 {d : Nat} {st : List Value} {σ : am_I} {ρ : am_R} {g : am_J} {τ : am_T} {Q : am_Q} {x0 x1 x2 x3 x4 x5 x6 : Value} {a : Nat} {j : Int32} (ht : τ.1 a = 15) (hj : am_inb j (τ.2.1 a) = true) : AW d 181 131 [x0, x1, x2, x3, x4, x5, x6] (.int j :: .ref a :: st) σ ρ g τ Q = AW d 181 132 [x0, x1, x2, x3, x4, x5, x6] (.int (σ a j.toNatClampNeg) :: st) σ ρ g τ Q := aw_ial m181 d181_131 rfl ht hj
theorem d181_132 : decode cX12_least 132 = .ok (.ifCond .lt 24, 3) := by decide +kernel
theorem s181_132 {d : Nat} {st : List Value} {σ : am_I} {ρ : am_R} {g : am_J} {τ : am_T} {Q : am_Q} {x0 x1 x2 x3 x4 x5 x6 : Value} {v : Int32} : AW d 181 132 [x0, x1, x2, x3, x4, x5, x6] (.int v :: st) σ ρ g τ Q = if v < 0 then AW d 181 156 [x0, x1, x2, x3, x4, x5, x6] (st) σ ρ g τ Q else AW d 181 135 [x0, x1, x2, x3, x4, x5, x6] (st) σ ρ g τ Q := aw_br m181 d181_132 rfl rfl rfl
theorem d181_135 : decode cX12_least 135 = .ok (.aload_n 0, 1) := by decide +kernel
theorem s181_135 {d : Nat} {st : List Value} {σ : am_I} {ρ : am_R} {g : am_J} {τ : am_T} {Q : am_Q} {x1 x2 x3 x4 x5 x6 : Value} {v : Nat} : AW d 181 135 [.ref v, x1, x2, x3, x4, x5, x6] (st) σ ρ g τ Q = AW d 181 136 [.ref v, x1, x2, x3, x4, x5, x6] (.ref v :: st) σ ρ g τ Q := aw_lc m181 d181_135 rfl rfl rfl
theorem d181_136 : decode cX12_least 136 = .ok (.getfield 169, 3) := by decide +kernel
theorem s181_136 {d : Nat} {st : List Value} {σ : am_I} {ρ : am_R} {g : am_J} {τ : am_T} {Q : am_Q} {x0 x1 x2 x3 x4 x5 x6 : Value} {a : Nat} (ht : τ.1 a = 12) : AW d 181 136 [x0, x1, x2, x3, x4, x5, x6] (.ref a :: st) σ ρ g τ Q = AW d 181 139 [x0, x1, x2, x3, x4, x5, x6] (va_rf (ρ a 56) :: st) σ ρ g τ Q := aw_gr m181 d181_136 rfl rfl rfl ht
theorem d181_139 : decode cX12_least 139 = .ok (.iload 6, 2) := by decide +kernel
theorem s181_139 {d : Nat} {st : List Value} {σ : am_I} {ρ : am_R} {g : am_J} {τ : am_T} {Q : am_Q} {x0 x1 x2 x3 x4 x5 : Value} {v : Int32} : AW d 181 139 [x0, x1, x2, x3, x4, x5, .int v] (st) σ ρ g τ Q = AW d 181 141 [x0, x1, x2, x3, x4, x5, .int v] (.int v :: st) σ ρ g τ Q := aw_lc m181 d181_139 rfl rfl rfl
theorem d181_141 : decode cX12_least 141 = .ok (.iaload, 1) := by decide +kernel
theorem s181_141 {d : Nat} {st : List Value} {σ : am_I} {ρ : am_R} {g : am_J} {τ : am_T} {Q : am_Q} {x0 x1 x2 x3 x4 x5 x6 : Value} {a : Nat} {j : Int32} (ht : τ.1 a = 15) (hj : am_inb j (τ.2.1 a) = true) : AW d 181 141 [x0, x1, x2, x3, x4, x5, x6] (.int j :: .ref a :: st) σ ρ g τ Q = AW d 181 142 [x0, x1, x2, x3, x4, x5, x6] (.int (σ a j.toNatClampNeg) :: st) σ ρ g τ Q := aw_ial m181 d181_141 rfl ht hj
theorem d181_142 : decode cX12_least 142 = .ok (.aload_n 0, 1) := by decide +kernel
theorem s181_142 {d : Nat} {st : List Value} {σ : am_I} {ρ : am_R} {g : am_J} {τ : am_T} {Q : am_Q} {x1 x2 x3 x4 x5 x6 : Value} {v : Nat} : AW d 181 142 [.ref v, x1, x2, x3, x4, x5, x6] (st) σ ρ g τ Q = AW d 181 143 [.ref v, x1, x2, x3, x4, x5, x6] (.ref v :: st) σ ρ g τ Q := aw_lc m181 d181_142 rfl rfl rfl
theorem d181_143 : decode cX12_least 143 = .ok (.getfield 169, 3) := by decide +kernel
theorem s181_143 {d : Nat} {st : List Value} {σ : am_I} {ρ : am_R} {g : am_J} {τ : am_T} {Q : am_Q} {x0 x1 x2 x3 x4 x5 x6 : Value} {a : Nat} (ht : τ.1 a = 12) : AW d 181 143 [x0, x1, x2, x3, x4, x5, x6] (.ref a :: st) σ ρ g τ Q = AW d 181 146 [x0, x1, x2, x3, x4, x5, x6] (va_rf (ρ a 56) :: st) σ ρ g τ Q := aw_gr m181 d181_143 rfl rfl rfl ht
theorem d181_146 : decode cX12_least 146 = .ok (.iload 5, 2) := by decide +kernel
theorem s181_146 {d : Nat} {st : List Value} {σ : am_I} {ρ : am_R} {g : am_J} {τ : am_T} {Q : am_Q} {x0 x1 x2 x3 x4 x6 : Value} {v : Int32} : AW d 181 146 [x0, x1, x2, x3, x4, .int v, x6] (st) σ ρ g τ Q = AW d 181 148 [x0, x1, x2, x3, x4, .int v, x6] (.int v :: st) σ ρ g τ Q := aw_lc m181 d181_146 rfl rfl rfl
theorem d181_148 : decode cX12_least 148 = .ok (.iaload, 1) := by decide +kernel
theorem s181_148 {d : Nat} {st : List Value} {σ : am_I} {ρ : am_R} {g : am_J} {τ : am_T} {Q : am_Q} {x0 x1 x2 x3 x4 x5 x6 : Value} {a : Nat} {j : Int32} (ht : τ.1 a = 15) (hj : am_inb j (τ.2.1 a) = true) : AW d 181 148 [x0, x1, x2, x3, x4, x5, x6] (.int j :: .ref a :: st) σ ρ g τ Q = AW d 181 149 [x0, x1, x2, x3, x4, x5, x6] (.int (σ a j.toNatClampNeg) :: st) σ ρ g τ Q := aw_ial m181 d181_148 rfl ht hj
theorem d181_149 : decode cX12_least 149 = .ok (.if_icmp .ge 7, 3) := by decide +kernel
theorem s181_149 {d : Nat} {st : List Value} {σ : am_I} {ρ : am_R} {g : am_J} {τ : am_T} {Q : am_Q} {x0 x1 x2 x3 x4 x5 x6 : Value} {v w : Int32} : AW d 181 149 [x0, x1, x2, x3, x4, x5, x6] (.int w :: .int v :: st) σ ρ g τ Q = if w ≤ v then AW d 181 156 [x0, x1, x2, x3, x4, x5, x6] (st) σ ρ g τ Q else AW d 181 152 [x0, x1, x2, x3, x4, x5, x6] (st) σ ρ g τ Q := aw_br m181 d181_149 rfl rfl rfl
theorem d181_152 : decode cX12_least 152 = .ok (.iload 6, 2) := by decide +kernel
theorem s181_152 {d : Nat} {st : List Value} {σ : am_I} {ρ : am_R} {g : am_J} {τ : am_T} {Q : am_Q} {x0 x1 x2 x3 x4 x5 : Value} {v : Int32} : AW d 181 152 [x0, x1, x2, x3, x4, x5, .int v] (st) σ ρ g τ Q = AW d 181 154 [x0, x1, x2, x3, x4, x5, .int v] (.int v :: st) σ ρ g τ Q := aw_lc m181 d181_152 rfl rfl rfl
theorem d181_154 : decode cX12_least 154 = .ok (.istore 5, 2) := by decide +kernel
theorem s181_154 {d : Nat} {st : List Value} {σ : am_I} {ρ : am_R} {g : am_J} {τ : am_T} {Q : am_Q} {x0 x1 x2 x3 x5 x6 : Value} {v : Int32} {u : Int32} : AW d 181 154 [x0, x1, x2, x3, .int u, x5, x6] (.int v :: st) σ ρ g τ Q = AW d 181 156 [x0, x1, x2, x3, .int u, .int v, x6] (st) σ ρ g τ Q := aw_lc m181 d181_154 rfl rfl rfl
theorem d181_156 : decode cX12_least 156 = .ok (.iinc 6 1, 3) := by decide +kernel
theorem s181_156 {d : Nat} {st : List Value} {σ : am_I} {ρ : am_R} {g : am_J} {τ : am_T} {Q : am_Q} {x0 x1 x2 x3 x4 : Value} {v : Int32} {u : Int32} : AW d 181 156 [x0, x1, x2, x3, x4, .int u, .int v] (st) σ ρ g τ Q = AW d 181 159 [x0, x1, x2, x3, x4, .int u, .int (v + 1)] (st) σ ρ g τ Q := aw_lc m181 d181_156 rfl rfl rfl
theorem d181_159 : decode cX12_least 159 = .ok (.goto (-40), 3) := by decide +kernel
theorem s181_159 {d : Nat} {st : List Value} {σ : am_I} {ρ : am_R} {g : am_J} {τ : am_T} {Q : am_Q} {x0 x1 x2 x3 x4 x5 x6 : Value} : AW d 181 159 [x0, x1, x2, x3, x4, x5, x6] (st) σ ρ g τ Q = AW d 181 119 [x0, x1, x2, x3, x4, x5, x6] (st) σ ρ g τ Q := aw_lc m181 d181_159 rfl rfl rfl
theorem d181_162 : decode cX12_least 162 = .ok (.iload_n 3, 1) := by decide +kernel
theorem s181_162 {d : Nat} {st : List Value} {σ : am_I} {ρ : am_R} {g : am_J} {τ : am_T} {Q : am_Q} {x0 x1 x2 x4 x5 x6 : Value} {v : Int32} : AW d 181 162 [x0, x1, x2, .int v, x4, x5, x6] (st) σ ρ g τ Q = AW d 181 163 [x0, x1, x2, .int v, x4, x5, x6] (.int v :: st) σ ρ g τ Q := aw_lc m181 d181_162 rfl rfl rfl
theorem d181_163 : decode cX12_least 163 = .ok (.ifCond .ge 11, 3) := by decide +kernel
theorem s181_163 {d : Nat} {st : List Value} {σ : am_I} {ρ : am_R} {g : am_J} {τ : am_T} {Q : am_Q} {x0 x1 x2 x3 x4 x5 x6 : Value} {v : Int32} : AW d 181 163 [x0, x1, x2, x3, x4, x5, x6] (.int v :: st) σ ρ g τ Q = if 0 ≤ v then AW d 181 174 [x0, x1, x2, x3, x4, x5, x6] (st) σ ρ g τ Q else AW d 181 166 [x0, x1, x2, x3, x4, x5, x6] (st) σ ρ g τ Q := aw_br m181 d181_163 rfl rfl rfl
theorem d181_166 : decode cX12_least 166 = .ok (.aload_n 0, 1) := by decide +kernel
theorem s181_166 {d : Nat} {st : List Value} {σ : am_I} {ρ : am_R} {g : am_J} {τ : am_T} {Q : am_Q} {x1 x2 x3 x4 x5 x6 : Value} {v : Nat} : AW d 181 166 [.ref v, x1, x2, x3, x4, x5, x6] (st) σ ρ g τ Q = AW d 181 167 [.ref v, x1, x2, x3, x4, x5, x6] (.ref v :: st) σ ρ g τ Q := aw_lc m181 d181_166 rfl rfl rfl
theorem d181_167 : decode cX12_least 167 = .ok (.getfield 169, 3) := by decide +kernel
theorem s181_167 {d : Nat} {st : List Value} {σ : am_I} {ρ : am_R} {g : am_J} {τ : am_T} {Q : am_Q} {x0 x1 x2 x3 x4 x5 x6 : Value} {a : Nat} (ht : τ.1 a = 12) : AW d 181 167 [x0, x1, x2, x3, x4, x5, x6] (.ref a :: st) σ ρ g τ Q = AW d 181 170 [x0, x1, x2, x3, x4, x5, x6] (va_rf (ρ a 56) :: st) σ ρ g τ Q := aw_gr m181 d181_167 rfl rfl rfl ht
theorem d181_170 : decode cX12_least 170 = .ok (.iload 5, 2) := by decide +kernel
theorem s181_170 {d : Nat} {st : List Value} {σ : am_I} {ρ : am_R} {g : am_J} {τ : am_T} {Q : am_Q} {x0 x1 x2 x3 x4 x6 : Value} {v : Int32} : AW d 181 170 [x0, x1, x2, x3, x4, .int v, x6] (st) σ ρ g τ Q = AW d 181 172 [x0, x1, x2, x3, x4, .int v, x6] (.int v :: st) σ ρ g τ Q := aw_lc m181 d181_170 rfl rfl rfl
theorem d181_172 : decode cX12_least 172 = .ok (.iaload, 1) := by decide +kernel
theorem s181_172 {d : Nat} {st : List Value} {σ : am_I} {ρ : am_R} {g : am_J} {τ : am_T} {Q : am_Q} {x0 x1 x2 x3 x4 x5 x6 : Value} {a : Nat} {j : Int32} (ht : τ.1 a = 15) (hj : am_inb j (τ.2.1 a) = true) : AW d 181 172 [x0, x1, x2, x3, x4, x5, x6] (.int j :: .ref a :: st) σ ρ g τ Q = AW d 181 173 [x0, x1, x2, x3, x4, x5, x6] (.int (σ a j.toNatClampNeg) :: st) σ ρ g τ Q := aw_ial m181 d181_172 rfl ht hj
theorem d181_173 : decode cX12_least 173 = .ok (.ireturn, 1) := by decide +kernel
theorem s181_173 {d : Nat} {σ : am_I} {ρ : am_R} {g : am_J} {τ : am_T} {Q : am_Q} {x0 x1 x2 x3 x4 x5 x6 : Value} {v : Int32} : AW d 181 173 [x0, x1, x2, x3, x4, x5, x6] ([.int v]) σ ρ g τ Q = Q (some (.int v)) σ ρ g τ := aw_ri m181 d181_173 rfl
theorem d181_174 : decode cX12_least 174 = .ok (.iconst 0, 1) := by decide +kernel
theorem s181_174 {d : Nat} {st : List Value} {σ : am_I} {ρ : am_R} {g : am_J} {τ : am_T} {Q : am_Q} {x0 x1 x2 x3 x4 x5 x6 : Value} : AW d 181 174 [x0, x1, x2, x3, x4, x5, x6] (st) σ ρ g τ Q = AW d 181 175 [x0, x1, x2, x3, x4, x5, x6] (.int 0 :: st) σ ρ g τ Q := aw_lc m181 d181_174 rfl rfl rfl
theorem d181_175 : decode cX12_least 175 = .ok (.istore 6, 2) := by decide +kernel
theorem s181_175 {d : Nat} {st : List Value} {σ : am_I} {ρ : am_R} {g : am_J} {τ : am_T} {Q : am_Q} {x0 x1 x2 x3 x4 x6 : Value} {v : Int32} {u : Int32} : AW d 181 175 [x0, x1, x2, x3, x4, .int u, x6] (.int v :: st) σ ρ g τ Q = AW d 181 177 [x0, x1, x2, x3, x4, .int u, .int v] (st) σ ρ g τ Q := aw_lc m181 d181_175 rfl rfl rfl
theorem d181_177 : decode cX12_least 177 = .ok (.iload 6, 2) := by decide +kernel
theorem s181_177 {d : Nat} {st : List Value} {σ : am_I} {ρ : am_R} {g : am_J} {τ : am_T} {Q : am_Q} {x0 x1 x2 x3 x4 x5 : Value} {v : Int32} : AW d 181 177 [x0, x1, x2, x3, x4, x5, .int v] (st) σ ρ g τ Q = AW d 181 179 [x0, x1, x2, x3, x4, x5, .int v] (.int v :: st) σ ρ g τ Q := aw_lc m181 d181_177 rfl rfl rfl
theorem d181_179 : decode cX12_least 179 = .ok (.iload_n 3, 1) := by decide +kernel
theorem s181_179 {d : Nat} {st : List Value} {σ : am_I} {ρ : am_R} {g : am_J} {τ : am_T} {Q : am_Q} {x0 x1 x2 x4 x5 x6 : Value} {v : Int32} : AW d 181 179 [x0, x1, x2, .int v, x4, x5, x6] (st) σ ρ g τ Q = AW d 181 180 [x0, x1, x2, .int v, x4, x5, x6] (.int v :: st) σ ρ g τ Q := aw_lc m181 d181_179 rfl rfl rfl
theorem d181_180 : decode cX12_least 180 = .ok (.if_icmp .ge 23, 3) := by decide +kernel
theorem s181_180 {d : Nat} {st : List Value} {σ : am_I} {ρ : am_R} {g : am_J} {τ : am_T} {Q : am_Q} {x0 x1 x2 x3 x4 x5 x6 : Value} {v w : Int32} : AW d 181 180 [x0, x1, x2, x3, x4, x5, x6] (.int w :: .int v :: st) σ ρ g τ Q = if w ≤ v then AW d 181 203 [x0, x1, x2, x3, x4, x5, x6] (st) σ ρ g τ Q else AW d 181 183 [x0, x1, x2, x3, x4, x5, x6] (st) σ ρ g τ Q := aw_br m181 d181_180 rfl rfl rfl
theorem d181_183 : decode cX12_least 183 = .ok (.iload 5, 2) := by decide +kernel
theorem s181_183 {d : Nat} {st : List Value} {σ : am_I} {ρ : am_R} {g : am_J} {τ : am_T} {Q : am_Q} {x0 x1 x2 x3 x4 x6 : Value} {v : Int32} : AW d 181 183 [x0, x1, x2, x3, x4, .int v, x6] (st) σ ρ g τ Q = AW d 181 185 [x0, x1, x2, x3, x4, .int v, x6] (.int v :: st) σ ρ g τ Q := aw_lc m181 d181_183 rfl rfl rfl
theorem d181_185 : decode cX12_least 185 = .ok (.aload_n 0, 1) := by decide +kernel
theorem s181_185 {d : Nat} {st : List Value} {σ : am_I} {ρ : am_R} {g : am_J} {τ : am_T} {Q : am_Q} {x1 x2 x3 x4 x5 x6 : Value} {v : Nat} : AW d 181 185 [.ref v, x1, x2, x3, x4, x5, x6] (st) σ ρ g τ Q = AW d 181 186 [.ref v, x1, x2, x3, x4, x5, x6] (.ref v :: st) σ ρ g τ Q := aw_lc m181 d181_185 rfl rfl rfl
theorem d181_186 : decode cX12_least 186 = .ok (.iload 6, 2) := by decide +kernel
theorem s181_186 {d : Nat} {st : List Value} {σ : am_I} {ρ : am_R} {g : am_J} {τ : am_T} {Q : am_Q} {x0 x1 x2 x3 x4 x5 : Value} {v : Int32} : AW d 181 186 [x0, x1, x2, x3, x4, x5, .int v] (st) σ ρ g τ Q = AW d 181 188 [x0, x1, x2, x3, x4, x5, .int v] (.int v :: st) σ ρ g τ Q := aw_lc m181 d181_186 rfl rfl rfl
theorem d181_188 : decode cX12_least 188 = .ok (.iload 5, 2) := by decide +kernel
theorem s181_188 {d : Nat} {st : List Value} {σ : am_I} {ρ : am_R} {g : am_J} {τ : am_T} {Q : am_Q} {x0 x1 x2 x3 x4 x6 : Value} {v : Int32} : AW d 181 188 [x0, x1, x2, x3, x4, .int v, x6] (st) σ ρ g τ Q = AW d 181 190 [x0, x1, x2, x3, x4, .int v, x6] (.int v :: st) σ ρ g τ Q := aw_lc m181 d181_188 rfl rfl rfl
theorem d181_190 : decode cX12_least 190 = .ok (.iload_n 2, 1) := by decide +kernel
theorem s181_190 {d : Nat} {st : List Value} {σ : am_I} {ρ : am_R} {g : am_J} {τ : am_T} {Q : am_Q} {x0 x1 x3 x4 x5 x6 : Value} {v : Int32} : AW d 181 190 [x0, x1, .int v, x3, x4, x5, x6] (st) σ ρ g τ Q = AW d 181 191 [x0, x1, .int v, x3, x4, x5, x6] (.int v :: st) σ ρ g τ Q := aw_lc m181 d181_190 rfl rfl rfl
theorem d181_191 : decode cX12_least 191 = .ok (.invokevirtual 226, 3) := by decide +kernel
theorem s181_191 {d : Nat} {st : List Value} {σ : am_I} {ρ : am_R} {g : am_J} {τ : am_T} {Q : am_Q} {x0 x1 x2 x3 x4 x5 x6 : Value} {p0 : Nat} {p1 : Int32} {p2 : Int32} {p3 : Int32} (ht : τ.1 p0 = 12) (hs : st.length ≤ 4) : AW (d + 1) 181 191 [x0, x1, x2, x3, x4, x5, x6] (.int p3 :: .int p2 :: .int p1 :: .ref p0 :: st) σ ρ g τ Q = AW d 183 0 [.ref p0, .int p1, .int p2, .int p3, am_jk, am_jk] [] σ ρ g τ (fun r9 σ ρ g τ => AW (d + 1) 181 194 [x0, x1, x2, x3, x4, x5, x6] (r9.toList ++ st) σ ρ g τ Q) := aw_cv m181 d181_191 rfl m183 rfl rfl (by decide) en183 ok183 rfl ht hs
theorem d181_194 : decode cX12_least 194 = .ok (.isub, 1) := by decide +kernel
theorem s181_194 {d : Nat} {st : List Value} {σ : am_I} {ρ : am_R} {g : am_J} {τ : am_T} {Q : am_Q} {x0 x1 x2 x3 x4 x5 x6 : Value} {v w : Int32} : AW d 181 194 [x0, x1, x2, x3, x4, x5, x6] (.int w :: .int v :: st) σ ρ g τ Q = AW d 181 195 [x0, x1, x2, x3, x4, x5, x6] (.int (v - w) :: st) σ ρ g τ Q := aw_lc m181 d181_194 rfl rfl rfl
theorem d181_195 : decode cX12_least 195 = .ok (.istore 5, 2) := by decide +kernel
theorem s181_195 {d : Nat} {st : List Value} {σ : am_I} {ρ : am_R} {g : am_J} {τ : am_T} {Q : am_Q} {x0 x1 x2 x3 x5 x6 : Value} {v : Int32} {u : Int32} : AW d 181 195 [x0, x1, x2, x3, .int u, x5, x6] (.int v :: st) σ ρ g τ Q = AW d 181 197 [x0, x1, x2, x3, .int u, .int v, x6] (st) σ ρ g τ Q := aw_lc m181 d181_195 rfl rfl rfl
theorem d181_197 : decode cX12_least 197 = .ok (.iinc 6 1, 3) := by decide +kernel
theorem s181_197 {d : Nat} {st : List Value} {σ : am_I} {ρ : am_R} {g : am_J} {τ : am_T} {Q : am_Q} {x0 x1 x2 x3 x4 : Value} {v : Int32} {u : Int32} : AW d 181 197 [x0, x1, x2, x3, x4, .int u, .int v] (st) σ ρ g τ Q = AW d 181 200 [x0, x1, x2, x3, x4, .int u, .int (v + 1)] (st) σ ρ g τ Q := aw_lc m181 d181_197 rfl rfl rfl
theorem d181_200 : decode cX12_least 200 = .ok (.goto (-23), 3) := by decide +kernel
theorem s181_200 {d : Nat} {st : List Value} {σ : am_I} {ρ : am_R} {g : am_J} {τ : am_T} {Q : am_Q} {x0 x1 x2 x3 x4 x5 x6 : Value} : AW d 181 200 [x0, x1, x2, x3, x4, x5, x6] (st) σ ρ g τ Q = AW d 181 177 [x0, x1, x2, x3, x4, x5, x6] (st) σ ρ g τ Q := aw_lc m181 d181_200 rfl rfl rfl
theorem d181_203 : decode cX12_least 203 = .ok (.aload_n 0, 1) := by decide +kernel
theorem s181_203 {d : Nat} {st : List Value} {σ : am_I} {ρ : am_R} {g : am_J} {τ : am_T} {Q : am_Q} {x1 x2 x3 x4 x5 x6 : Value} {v : Nat} : AW d 181 203 [.ref v, x1, x2, x3, x4, x5, x6] (st) σ ρ g τ Q = AW d 181 204 [.ref v, x1, x2, x3, x4, x5, x6] (.ref v :: st) σ ρ g τ Q := aw_lc m181 d181_203 rfl rfl rfl
theorem d181_204 : decode cX12_least 204 = .ok (.iload_n 3, 1) := by decide +kernel
theorem s181_204 {d : Nat} {st : List Value} {σ : am_I} {ρ : am_R} {g : am_J} {τ : am_T} {Q : am_Q} {x0 x1 x2 x4 x5 x6 : Value} {v : Int32} : AW d 181 204 [x0, x1, x2, .int v, x4, x5, x6] (st) σ ρ g τ Q = AW d 181 205 [x0, x1, x2, .int v, x4, x5, x6] (.int v :: st) σ ρ g τ Q := aw_lc m181 d181_204 rfl rfl rfl
theorem d181_205 : decode cX12_least 205 = .ok (.iload 5, 2) := by decide +kernel
theorem s181_205 {d : Nat} {st : List Value} {σ : am_I} {ρ : am_R} {g : am_J} {τ : am_T} {Q : am_Q} {x0 x1 x2 x3 x4 x6 : Value} {v : Int32} : AW d 181 205 [x0, x1, x2, x3, x4, .int v, x6] (st) σ ρ g τ Q = AW d 181 207 [x0, x1, x2, x3, x4, .int v, x6] (.int v :: st) σ ρ g τ Q := aw_lc m181 d181_205 rfl rfl rfl
theorem d181_207 : decode cX12_least 207 = .ok (.iload_n 2, 1) := by decide +kernel
theorem s181_207 {d : Nat} {st : List Value} {σ : am_I} {ρ : am_R} {g : am_J} {τ : am_T} {Q : am_Q} {x0 x1 x3 x4 x5 x6 : Value} {v : Int32} : AW d 181 207 [x0, x1, .int v, x3, x4, x5, x6] (st) σ ρ g τ Q = AW d 181 208 [x0, x1, .int v, x3, x4, x5, x6] (.int v :: st) σ ρ g τ Q := aw_lc m181 d181_207 rfl rfl rfl
theorem d181_208 : decode cX12_least 208 = .ok (.invokevirtual 226, 3) := by decide +kernel
theorem s181_208 {d : Nat} {st : List Value} {σ : am_I} {ρ : am_R} {g : am_J} {τ : am_T} {Q : am_Q} {x0 x1 x2 x3 x4 x5 x6 : Value} {p0 : Nat} {p1 : Int32} {p2 : Int32} {p3 : Int32} (ht : τ.1 p0 = 12) (hs : st.length ≤ 4) : AW (d + 1) 181 208 [x0, x1, x2, x3, x4, x5, x6] (.int p3 :: .int p2 :: .int p1 :: .ref p0 :: st) σ ρ g τ Q = AW d 183 0 [.ref p0, .int p1, .int p2, .int p3, am_jk, am_jk] [] σ ρ g τ (fun r9 σ ρ g τ => AW (d + 1) 181 211 [x0, x1, x2, x3, x4, x5, x6] (r9.toList ++ st) σ ρ g τ Q) := aw_cv m181 d181_208 rfl m183 rfl rfl (by decide) en183 ok183 rfl ht hs
theorem d181_211 : decode cX12_least 211 = .ok (.ireturn, 1) := by decide +kernel
theorem s181_211 {d : Nat} {σ : am_I} {ρ : am_R} {g : am_J} {τ : am_T} {Q : am_Q} {x0 x1 x2 x3 x4 x5 x6 : Value} {v : Int32} : AW d 181 211 [x0, x1, x2, x3, x4, x5, x6] ([.int v]) σ ρ g τ Q = Q (some (.int v)) σ ρ g τ := aw_ri m181 d181_211 rfl
theorem d182_0 : decode cX12_leastFrom 0 = .ok (.iconst (-1), 1) := by decide +kernel
theorem s182_0 {d : Nat} {st : List Value} {σ : am_I} {ρ : am_R} {g : am_J} {τ : am_T} {Q : am_Q} {x0 x1 x2 x3 x4 x5 x6 x7 : Value} : AW d 182 0 [x0, x1, x2, x3, x4, x5, x6, x7] (st) σ ρ g τ Q = AW d 182 1 [x0, x1, x2, x3, x4, x5, x6, x7] (.int (-1) :: st) σ ρ g τ Q := aw_lc m182 d182_0 rfl rfl rfl
theorem d182_1 : decode cX12_leastFrom 1 = .ok (.istore 4, 2) := by decide +kernel
theorem s182_1 {d : Nat} {st : List Value} {σ : am_I} {ρ : am_R} {g : am_J} {τ : am_T} {Q : am_Q} {x0 x1 x2 x4 x5 x6 x7 : Value} {v : Int32} {u : Int32} : AW d 182 1 [x0, x1, x2, .int u, x4, x5, x6, x7] (.int v :: st) σ ρ g τ Q = AW d 182 3 [x0, x1, x2, .int u, .int v, x5, x6, x7] (st) σ ρ g τ Q := aw_lc m182 d182_1 rfl rfl rfl
theorem d182_3 : decode cX12_leastFrom 3 = .ok (.iconst 0, 1) := by decide +kernel
theorem s182_3 {d : Nat} {st : List Value} {σ : am_I} {ρ : am_R} {g : am_J} {τ : am_T} {Q : am_Q} {x0 x1 x2 x3 x4 x5 x6 x7 : Value} : AW d 182 3 [x0, x1, x2, x3, x4, x5, x6, x7] (st) σ ρ g τ Q = AW d 182 4 [x0, x1, x2, x3, x4, x5, x6, x7] (.int 0 :: st) σ ρ g τ Q := aw_lc m182 d182_3 rfl rfl rfl
theorem d182_4 : decode cX12_leastFrom 4 = .ok (.istore 5, 2) := by decide +kernel
theorem s182_4 {d : Nat} {st : List Value} {σ : am_I} {ρ : am_R} {g : am_J} {τ : am_T} {Q : am_Q} {x0 x1 x2 x3 x5 x6 x7 : Value} {v : Int32} {u : Int32} : AW d 182 4 [x0, x1, x2, x3, .int u, x5, x6, x7] (.int v :: st) σ ρ g τ Q = AW d 182 6 [x0, x1, x2, x3, .int u, .int v, x6, x7] (st) σ ρ g τ Q := aw_lc m182 d182_4 rfl rfl rfl
theorem d182_6 : decode cX12_leastFrom 6 = .ok (.iload 5, 2) := by decide +kernel
theorem s182_6 {d : Nat} {st : List Value} {σ : am_I} {ρ : am_R} {g : am_J} {τ : am_T} {Q : am_Q} {x0 x1 x2 x3 x4 x6 x7 : Value} {v : Int32} : AW d 182 6 [x0, x1, x2, x3, x4, .int v, x6, x7] (st) σ ρ g τ Q = AW d 182 8 [x0, x1, x2, x3, x4, .int v, x6, x7] (.int v :: st) σ ρ g τ Q := aw_lc m182 d182_6 rfl rfl rfl
theorem d182_8 : decode cX12_leastFrom 8 = .ok (.bipush 9, 2) := by decide +kernel
theorem s182_8 {d : Nat} {st : List Value} {σ : am_I} {ρ : am_R} {g : am_J} {τ : am_T} {Q : am_Q} {x0 x1 x2 x3 x4 x5 x6 x7 : Value} : AW d 182 8 [x0, x1, x2, x3, x4, x5, x6, x7] (st) σ ρ g τ Q = AW d 182 10 [x0, x1, x2, x3, x4, x5, x6, x7] (.int 9 :: st) σ ρ g τ Q := aw_lc m182 d182_8 rfl rfl rfl
theorem d182_10 : decode cX12_leastFrom 10 = .ok (.if_icmp .gt 70, 3) := by decide +kernel
theorem s182_10 {d : Nat} {st : List Value} {σ : am_I} {ρ : am_R} {g : am_J} {τ : am_T} {Q : am_Q} {x0 x1 x2 x3 x4 x5 x6 x7 : Value} {v w : Int32} : AW d 182 10 [x0, x1, x2, x3, x4, x5, x6, x7] (.int w :: .int v :: st) σ ρ g τ Q = if w < v then AW d 182 80 [x0, x1, x2, x3, x4, x5, x6, x7] (st) σ ρ g τ Q else AW d 182 13 [x0, x1, x2, x3, x4, x5, x6, x7] (st) σ ρ g τ Q := aw_br m182 d182_10 rfl rfl rfl
theorem d182_13 : decode cX12_leastFrom 13 = .ok (.iload 5, 2) := by decide +kernel
theorem s182_13 {d : Nat} {st : List Value} {σ : am_I} {ρ : am_R} {g : am_J} {τ : am_T} {Q : am_Q} {x0 x1 x2 x3 x4 x6 x7 : Value} {v : Int32} : AW d 182 13 [x0, x1, x2, x3, x4, .int v, x6, x7] (st) σ ρ g τ Q = AW d 182 15 [x0, x1, x2, x3, x4, .int v, x6, x7] (.int v :: st) σ ρ g τ Q := aw_lc m182 d182_13 rfl rfl rfl
theorem d182_15 : decode cX12_leastFrom 15 = .ok (.iload_n 2, 1) := by decide +kernel
theorem s182_15 {d : Nat} {st : List Value} {σ : am_I} {ρ : am_R} {g : am_J} {τ : am_T} {Q : am_Q} {x0 x1 x3 x4 x5 x6 x7 : Value} {v : Int32} : AW d 182 15 [x0, x1, .int v, x3, x4, x5, x6, x7] (st) σ ρ g τ Q = AW d 182 16 [x0, x1, .int v, x3, x4, x5, x6, x7] (.int v :: st) σ ρ g τ Q := aw_lc m182 d182_15 rfl rfl rfl
theorem d182_16 : decode cX12_leastFrom 16 = .ok (.if_icmp .gt 64, 3) := by decide +kernel
theorem s182_16 {d : Nat} {st : List Value} {σ : am_I} {ρ : am_R} {g : am_J} {τ : am_T} {Q : am_Q} {x0 x1 x2 x3 x4 x5 x6 x7 : Value} {v w : Int32} : AW d 182 16 [x0, x1, x2, x3, x4, x5, x6, x7] (.int w :: .int v :: st) σ ρ g τ Q = if w < v then AW d 182 80 [x0, x1, x2, x3, x4, x5, x6, x7] (st) σ ρ g τ Q else AW d 182 19 [x0, x1, x2, x3, x4, x5, x6, x7] (st) σ ρ g τ Q := aw_br m182 d182_16 rfl rfl rfl
theorem d182_19 : decode cX12_leastFrom 19 = .ok (.aload_n 0, 1) := by decide +kernel
theorem s182_19 {d : Nat} {st : List Value} {σ : am_I} {ρ : am_R} {g : am_J} {τ : am_T} {Q : am_Q} {x1 x2 x3 x4 x5 x6 x7 : Value} {v : Nat} : AW d 182 19 [.ref v, x1, x2, x3, x4, x5, x6, x7] (st) σ ρ g τ Q = AW d 182 20 [.ref v, x1, x2, x3, x4, x5, x6, x7] (.ref v :: st) σ ρ g τ Q := aw_lc m182 d182_19 rfl rfl rfl
theorem d182_20 : decode cX12_leastFrom 20 = .ok (.getfield 169, 3) := by decide +kernel
theorem s182_20 {d : Nat} {st : List Value} {σ : am_I} {ρ : am_R} {g : am_J} {τ : am_T} {Q : am_Q} {x0 x1 x2 x3 x4 x5 x6 x7 : Value} {a : Nat} (ht : τ.1 a = 12) : AW d 182 20 [x0, x1, x2, x3, x4, x5, x6, x7] (.ref a :: st) σ ρ g τ Q = AW d 182 23 [x0, x1, x2, x3, x4, x5, x6, x7] (va_rf (ρ a 56) :: st) σ ρ g τ Q := aw_gr m182 d182_20 rfl rfl rfl ht
theorem d182_23 : decode cX12_leastFrom 23 = .ok (.bipush 41, 2) := by decide +kernel
theorem s182_23 {d : Nat} {st : List Value} {σ : am_I} {ρ : am_R} {g : am_J} {τ : am_T} {Q : am_Q} {x0 x1 x2 x3 x4 x5 x6 x7 : Value} : AW d 182 23 [x0, x1, x2, x3, x4, x5, x6, x7] (st) σ ρ g τ Q = AW d 182 25 [x0, x1, x2, x3, x4, x5, x6, x7] (.int 41 :: st) σ ρ g τ Q := aw_lc m182 d182_23 rfl rfl rfl
theorem d182_25 : decode cX12_leastFrom 25 = .ok (.iload_n 1, 1) := by decide +kernel
theorem s182_25 {d : Nat} {st : List Value} {σ : am_I} {ρ : am_R} {g : am_J} {τ : am_T} {Q : am_Q} {x0 x2 x3 x4 x5 x6 x7 : Value} {v : Int32} : AW d 182 25 [x0, .int v, x2, x3, x4, x5, x6, x7] (st) σ ρ g τ Q = AW d 182 26 [x0, .int v, x2, x3, x4, x5, x6, x7] (.int v :: st) σ ρ g τ Q := aw_lc m182 d182_25 rfl rfl rfl
theorem d182_26 : decode cX12_leastFrom 26 = .ok (.iconst 1, 1) := by decide +kernel
theorem s182_26 {d : Nat} {st : List Value} {σ : am_I} {ρ : am_R} {g : am_J} {τ : am_T} {Q : am_Q} {x0 x1 x2 x3 x4 x5 x6 x7 : Value} : AW d 182 26 [x0, x1, x2, x3, x4, x5, x6, x7] (st) σ ρ g τ Q = AW d 182 27 [x0, x1, x2, x3, x4, x5, x6, x7] (.int 1 :: st) σ ρ g τ Q := aw_lc m182 d182_26 rfl rfl rfl
theorem d182_27 : decode cX12_leastFrom 27 = .ok (.iadd, 1) := by decide +kernel
theorem s182_27 {d : Nat} {st : List Value} {σ : am_I} {ρ : am_R} {g : am_J} {τ : am_T} {Q : am_Q} {x0 x1 x2 x3 x4 x5 x6 x7 : Value} {v w : Int32} : AW d 182 27 [x0, x1, x2, x3, x4, x5, x6, x7] (.int w :: .int v :: st) σ ρ g τ Q = AW d 182 28 [x0, x1, x2, x3, x4, x5, x6, x7] (.int (v + w) :: st) σ ρ g τ Q := aw_lc m182 d182_27 rfl rfl rfl
theorem d182_28 : decode cX12_leastFrom 28 = .ok (.imul, 1) := by decide +kernel
theorem s182_28 {d : Nat} {st : List Value} {σ : am_I} {ρ : am_R} {g : am_J} {τ : am_T} {Q : am_Q} {x0 x1 x2 x3 x4 x5 x6 x7 : Value} {v w : Int32} : AW d 182 28 [x0, x1, x2, x3, x4, x5, x6, x7] (.int w :: .int v :: st) σ ρ g τ Q = AW d 182 29 [x0, x1, x2, x3, x4, x5, x6, x7] (.int (v * w) :: st) σ ρ g τ Q := aw_lc m182 d182_28 rfl rfl rfl
theorem d182_29 : decode cX12_leastFrom 29 = .ok (.iload_n 2, 1) := by decide +kernel
theorem s182_29 {d : Nat} {st : List Value} {σ : am_I} {ρ : am_R} {g : am_J} {τ : am_T} {Q : am_Q} {x0 x1 x3 x4 x5 x6 x7 : Value} {v : Int32} : AW d 182 29 [x0, x1, .int v, x3, x4, x5, x6, x7] (st) σ ρ g τ Q = AW d 182 30 [x0, x1, .int v, x3, x4, x5, x6, x7] (.int v :: st) σ ρ g τ Q := aw_lc m182 d182_29 rfl rfl rfl
theorem d182_30 : decode cX12_leastFrom 30 = .ok (.iadd, 1) := by decide +kernel
theorem s182_30 {d : Nat} {st : List Value} {σ : am_I} {ρ : am_R} {g : am_J} {τ : am_T} {Q : am_Q} {x0 x1 x2 x3 x4 x5 x6 x7 : Value} {v w : Int32} : AW d 182 30 [x0, x1, x2, x3, x4, x5, x6, x7] (.int w :: .int v :: st) σ ρ g τ Q = AW d 182 31 [x0, x1, x2, x3, x4, x5, x6, x7] (.int (v + w) :: st) σ ρ g τ Q := aw_lc m182 d182_30 rfl rfl rfl
theorem d182_31 : decode cX12_leastFrom 31 = .ok (.iload 5, 2) := by decide +kernel
theorem s182_31 {d : Nat} {st : List Value} {σ : am_I} {ρ : am_R} {g : am_J} {τ : am_T} {Q : am_Q} {x0 x1 x2 x3 x4 x6 x7 : Value} {v : Int32} : AW d 182 31 [x0, x1, x2, x3, x4, .int v, x6, x7] (st) σ ρ g τ Q = AW d 182 33 [x0, x1, x2, x3, x4, .int v, x6, x7] (.int v :: st) σ ρ g τ Q := aw_lc m182 d182_31 rfl rfl rfl
theorem d182_33 : decode cX12_leastFrom 33 = .ok (.isub, 1) := by decide +kernel
theorem s182_33 {d : Nat} {st : List Value} {σ : am_I} {ρ : am_R} {g : am_J} {τ : am_T} {Q : am_Q} {x0 x1 x2 x3 x4 x5 x6 x7 : Value} {v w : Int32} : AW d 182 33 [x0, x1, x2, x3, x4, x5, x6, x7] (.int w :: .int v :: st) σ ρ g τ Q = AW d 182 34 [x0, x1, x2, x3, x4, x5, x6, x7] (.int (v - w) :: st) σ ρ g τ Q := aw_lc m182 d182_33 rfl rfl rfl
theorem d182_34 : decode cX12_leastFrom 34 = .ok (.iaload, 1) := by decide +kernel
theorem s182_34 {d : Nat} {st : List Value} {σ : am_I} {ρ : am_R} {g : am_J} {τ : am_T} {Q : am_Q} {x0 x1 x2 x3 x4 x5 x6 x7 : Value} {a : Nat} {j : Int32} (ht : τ.1 a = 15) (hj : am_inb j (τ.2.1 a) = true) : AW d 182 34 [x0, x1, x2, x3, x4, x5, x6, x7] (.int j :: .ref a :: st) σ ρ g τ Q = AW d 182 35 [x0, x1, x2, x3, x4, x5, x6, x7] (.int (σ a j.toNatClampNeg) :: st) σ ρ g τ Q := aw_ial m182 d182_34 rfl ht hj
theorem d182_35 : decode cX12_leastFrom 35 = .ok (.istore 6, 2) := by decide +kernel
theorem s182_35 {d : Nat} {st : List Value} {σ : am_I} {ρ : am_R} {g : am_J} {τ : am_T} {Q : am_Q} {x0 x1 x2 x3 x4 x6 x7 : Value} {v : Int32} {u : Int32} : AW d 182 35 [x0, x1, x2, x3, x4, .int u, x6, x7] (.int v :: st) σ ρ g τ Q = AW d 182 37 [x0, x1, x2, x3, x4, .int u, .int v, x7] (st) σ ρ g τ Q := aw_lc m182 d182_35 rfl rfl rfl
theorem d182_37 : decode cX12_leastFrom 37 = .ok (.iload 6, 2) := by decide +kernel
theorem s182_37 {d : Nat} {st : List Value} {σ : am_I} {ρ : am_R} {g : am_J} {τ : am_T} {Q : am_Q} {x0 x1 x2 x3 x4 x5 x7 : Value} {v : Int32} : AW d 182 37 [x0, x1, x2, x3, x4, x5, .int v, x7] (st) σ ρ g τ Q = AW d 182 39 [x0, x1, x2, x3, x4, x5, .int v, x7] (.int v :: st) σ ρ g τ Q := aw_lc m182 d182_37 rfl rfl rfl
theorem d182_39 : decode cX12_leastFrom 39 = .ok (.ifCond .ge 6, 3) := by decide +kernel
theorem s182_39 {d : Nat} {st : List Value} {σ : am_I} {ρ : am_R} {g : am_J} {τ : am_T} {Q : am_Q} {x0 x1 x2 x3 x4 x5 x6 x7 : Value} {v : Int32} : AW d 182 39 [x0, x1, x2, x3, x4, x5, x6, x7] (.int v :: st) σ ρ g τ Q = if 0 ≤ v then AW d 182 45 [x0, x1, x2, x3, x4, x5, x6, x7] (st) σ ρ g τ Q else AW d 182 42 [x0, x1, x2, x3, x4, x5, x6, x7] (st) σ ρ g τ Q := aw_br m182 d182_39 rfl rfl rfl
theorem d182_42 : decode cX12_leastFrom 42 = .ok (.goto 32, 3) := by decide +kernel
theorem s182_42 {d : Nat} {st : List Value} {σ : am_I} {ρ : am_R} {g : am_J} {τ : am_T} {Q : am_Q} {x0 x1 x2 x3 x4 x5 x6 x7 : Value} : AW d 182 42 [x0, x1, x2, x3, x4, x5, x6, x7] (st) σ ρ g τ Q = AW d 182 74 [x0, x1, x2, x3, x4, x5, x6, x7] (st) σ ρ g τ Q := aw_lc m182 d182_42 rfl rfl rfl
theorem d182_45 : decode cX12_leastFrom 45 = .ok (.iload 6, 2) := by decide +kernel
theorem s182_45 {d : Nat} {st : List Value} {σ : am_I} {ρ : am_R} {g : am_J} {τ : am_T} {Q : am_Q} {x0 x1 x2 x3 x4 x5 x7 : Value} {v : Int32} : AW d 182 45 [x0, x1, x2, x3, x4, x5, .int v, x7] (st) σ ρ g τ Q = AW d 182 47 [x0, x1, x2, x3, x4, x5, .int v, x7] (.int v :: st) σ ρ g τ Q := aw_lc m182 d182_45 rfl rfl rfl
theorem d182_47 : decode cX12_leastFrom 47 = .ok (.aload_n 0, 1) := by decide +kernel
theorem s182_47 {d : Nat} {st : List Value} {σ : am_I} {ρ : am_R} {g : am_J} {τ : am_T} {Q : am_Q} {x1 x2 x3 x4 x5 x6 x7 : Value} {v : Nat} : AW d 182 47 [.ref v, x1, x2, x3, x4, x5, x6, x7] (st) σ ρ g τ Q = AW d 182 48 [.ref v, x1, x2, x3, x4, x5, x6, x7] (.ref v :: st) σ ρ g τ Q := aw_lc m182 d182_47 rfl rfl rfl
theorem d182_48 : decode cX12_leastFrom 48 = .ok (.iload_n 1, 1) := by decide +kernel
theorem s182_48 {d : Nat} {st : List Value} {σ : am_I} {ρ : am_R} {g : am_J} {τ : am_T} {Q : am_Q} {x0 x2 x3 x4 x5 x6 x7 : Value} {v : Int32} : AW d 182 48 [x0, .int v, x2, x3, x4, x5, x6, x7] (st) σ ρ g τ Q = AW d 182 49 [x0, .int v, x2, x3, x4, x5, x6, x7] (.int v :: st) σ ρ g τ Q := aw_lc m182 d182_48 rfl rfl rfl
theorem d182_49 : decode cX12_leastFrom 49 = .ok (.iload_n 3, 1) := by decide +kernel
theorem s182_49 {d : Nat} {st : List Value} {σ : am_I} {ρ : am_R} {g : am_J} {τ : am_T} {Q : am_Q} {x0 x1 x2 x4 x5 x6 x7 : Value} {v : Int32} : AW d 182 49 [x0, x1, x2, .int v, x4, x5, x6, x7] (st) σ ρ g τ Q = AW d 182 50 [x0, x1, x2, .int v, x4, x5, x6, x7] (.int v :: st) σ ρ g τ Q := aw_lc m182 d182_49 rfl rfl rfl
theorem d182_50 : decode cX12_leastFrom 50 = .ok (.iload 5, 2) := by decide +kernel
theorem s182_50 {d : Nat} {st : List Value} {σ : am_I} {ρ : am_R} {g : am_J} {τ : am_T} {Q : am_Q} {x0 x1 x2 x3 x4 x6 x7 : Value} {v : Int32} : AW d 182 50 [x0, x1, x2, x3, x4, .int v, x6, x7] (st) σ ρ g τ Q = AW d 182 52 [x0, x1, x2, x3, x4, .int v, x6, x7] (.int v :: st) σ ρ g τ Q := aw_lc m182 d182_50 rfl rfl rfl
theorem d182_52 : decode cX12_leastFrom 52 = .ok (.invokevirtual 229, 3) := by decide +kernel
theorem s182_52 {d : Nat} {st : List Value} {σ : am_I} {ρ : am_R} {g : am_J} {τ : am_T} {Q : am_Q} {x0 x1 x2 x3 x4 x5 x6 x7 : Value} {p0 : Nat} {p1 : Int32} {p2 : Int32} {p3 : Int32} (ht : τ.1 p0 = 12) (hs : st.length ≤ 4) : AW (d + 1) 182 52 [x0, x1, x2, x3, x4, x5, x6, x7] (.int p3 :: .int p2 :: .int p1 :: .ref p0 :: st) σ ρ g τ Q = AW d 180 0 [.ref p0, .int p1, .int p2, .int p3, am_jk, am_jk] [] σ ρ g τ (fun r9 σ ρ g τ => AW (d + 1) 182 55 [x0, x1, x2, x3, x4, x5, x6, x7] (r9.toList ++ st) σ ρ g τ Q) := aw_cv m182 d182_52 rfl m180 rfl rfl (by decide) en180 ok180 rfl ht hs
theorem d182_55 : decode cX12_leastFrom 55 = .ok (.iadd, 1) := by decide +kernel
theorem s182_55 {d : Nat} {st : List Value} {σ : am_I} {ρ : am_R} {g : am_J} {τ : am_T} {Q : am_Q} {x0 x1 x2 x3 x4 x5 x6 x7 : Value} {v w : Int32} : AW d 182 55 [x0, x1, x2, x3, x4, x5, x6, x7] (.int w :: .int v :: st) σ ρ g τ Q = AW d 182 56 [x0, x1, x2, x3, x4, x5, x6, x7] (.int (v + w) :: st) σ ρ g τ Q := aw_lc m182 d182_55 rfl rfl rfl
theorem d182_56 : decode cX12_leastFrom 56 = .ok (.istore 7, 2) := by decide +kernel
theorem s182_56 {d : Nat} {st : List Value} {σ : am_I} {ρ : am_R} {g : am_J} {τ : am_T} {Q : am_Q} {x0 x1 x2 x3 x4 x5 x7 : Value} {v : Int32} {u : Int32} : AW d 182 56 [x0, x1, x2, x3, x4, x5, .int u, x7] (.int v :: st) σ ρ g τ Q = AW d 182 58 [x0, x1, x2, x3, x4, x5, .int u, .int v] (st) σ ρ g τ Q := aw_lc m182 d182_56 rfl rfl rfl
theorem d182_58 : decode cX12_leastFrom 58 = .ok (.iload 4, 2) := by decide +kernel
theorem s182_58 {d : Nat} {st : List Value} {σ : am_I} {ρ : am_R} {g : am_J} {τ : am_T} {Q : am_Q} {x0 x1 x2 x3 x5 x6 x7 : Value} {v : Int32} : AW d 182 58 [x0, x1, x2, x3, .int v, x5, x6, x7] (st) σ ρ g τ Q = AW d 182 60 [x0, x1, x2, x3, .int v, x5, x6, x7] (.int v :: st) σ ρ g τ Q := aw_lc m182 d182_58 rfl rfl rfl
theorem d182_60 : decode cX12_leastFrom 60 = .ok (.ifCond .lt 10, 3) := by decide +kernel
theorem s182_60 {d : Nat} {st : List Value} {σ : am_I} {ρ : am_R} {g : am_J} {τ : am_T} {Q : am_Q} {x0 x1 x2 x3 x4 x5 x6 x7 : Value} {v : Int32} : AW d 182 60 [x0, x1, x2, x3, x4, x5, x6, x7] (.int v :: st) σ ρ g τ Q = if v < 0 then AW d 182 70 [x0, x1, x2, x3, x4, x5, x6, x7] (st) σ ρ g τ Q else AW d 182 63 [x0, x1, x2, x3, x4, x5, x6, x7] (st) σ ρ g τ Q := aw_br m182 d182_60 rfl rfl rfl
theorem d182_63 : decode cX12_leastFrom 63 = .ok (.iload 7, 2) := by decide +kernel
theorem s182_63 {d : Nat} {st : List Value} {σ : am_I} {ρ : am_R} {g : am_J} {τ : am_T} {Q : am_Q} {x0 x1 x2 x3 x4 x5 x6 : Value} {v : Int32} : AW d 182 63 [x0, x1, x2, x3, x4, x5, x6, .int v] (st) σ ρ g τ Q = AW d 182 65 [x0, x1, x2, x3, x4, x5, x6, .int v] (.int v :: st) σ ρ g τ Q := aw_lc m182 d182_63 rfl rfl rfl
theorem d182_65 : decode cX12_leastFrom 65 = .ok (.iload 4, 2) := by decide +kernel
theorem s182_65 {d : Nat} {st : List Value} {σ : am_I} {ρ : am_R} {g : am_J} {τ : am_T} {Q : am_Q} {x0 x1 x2 x3 x5 x6 x7 : Value} {v : Int32} : AW d 182 65 [x0, x1, x2, x3, .int v, x5, x6, x7] (st) σ ρ g τ Q = AW d 182 67 [x0, x1, x2, x3, .int v, x5, x6, x7] (.int v :: st) σ ρ g τ Q := aw_lc m182 d182_65 rfl rfl rfl
theorem d182_67 : decode cX12_leastFrom 67 = .ok (.if_icmp .ge 7, 3) := by decide +kernel
theorem s182_67 {d : Nat} {st : List Value} {σ : am_I} {ρ : am_R} {g : am_J} {τ : am_T} {Q : am_Q} {x0 x1 x2 x3 x4 x5 x6 x7 : Value} {v w : Int32} : AW d 182 67 [x0, x1, x2, x3, x4, x5, x6, x7] (.int w :: .int v :: st) σ ρ g τ Q = if w ≤ v then AW d 182 74 [x0, x1, x2, x3, x4, x5, x6, x7] (st) σ ρ g τ Q else AW d 182 70 [x0, x1, x2, x3, x4, x5, x6, x7] (st) σ ρ g τ Q := aw_br m182 d182_67 rfl rfl rfl
theorem d182_70 : decode cX12_leastFrom 70 = .ok (.iload 7, 2) := by decide +kernel
theorem s182_70 {d : Nat} {st : List Value} {σ : am_I} {ρ : am_R} {g : am_J} {τ : am_T} {Q : am_Q} {x0 x1 x2 x3 x4 x5 x6 : Value} {v : Int32} : AW d 182 70 [x0, x1, x2, x3, x4, x5, x6, .int v] (st) σ ρ g τ Q = AW d 182 72 [x0, x1, x2, x3, x4, x5, x6, .int v] (.int v :: st) σ ρ g τ Q := aw_lc m182 d182_70 rfl rfl rfl
theorem d182_72 : decode cX12_leastFrom 72 = .ok (.istore 4, 2) := by decide +kernel
theorem s182_72 {d : Nat} {st : List Value} {σ : am_I} {ρ : am_R} {g : am_J} {τ : am_T} {Q : am_Q} {x0 x1 x2 x4 x5 x6 x7 : Value} {v : Int32} {u : Int32} : AW d 182 72 [x0, x1, x2, .int u, x4, x5, x6, x7] (.int v :: st) σ ρ g τ Q = AW d 182 74 [x0, x1, x2, .int u, .int v, x5, x6, x7] (st) σ ρ g τ Q := aw_lc m182 d182_72 rfl rfl rfl
theorem d182_74 : decode cX12_leastFrom 74 = .ok (.iinc 5 1, 3) := by decide +kernel
theorem s182_74 {d : Nat} {st : List Value} {σ : am_I} {ρ : am_R} {g : am_J} {τ : am_T} {Q : am_Q} {x0 x1 x2 x3 x6 x7 : Value} {v : Int32} {u : Int32} : AW d 182 74 [x0, x1, x2, x3, .int u, .int v, x6, x7] (st) σ ρ g τ Q = AW d 182 77 [x0, x1, x2, x3, .int u, .int (v + 1), x6, x7] (st) σ ρ g τ Q := aw_lc m182 d182_74 rfl rfl rfl
theorem d182_77 : decode cX12_leastFrom 77 = .ok (.goto (-71), 3) := by decide +kernel
theorem s182_77 {d : Nat} {st : List Value} {σ : am_I} {ρ : am_R} {g : am_J} {τ : am_T} {Q : am_Q} {x0 x1 x2 x3 x4 x5 x6 x7 : Value} : AW d 182 77 [x0, x1, x2, x3, x4, x5, x6, x7] (st) σ ρ g τ Q = AW d 182 6 [x0, x1, x2, x3, x4, x5, x6, x7] (st) σ ρ g τ Q := aw_lc m182 d182_77 rfl rfl rfl
theorem d182_80 : decode cX12_leastFrom 80 = .ok (.iload 4, 2) := by decide +kernel
theorem s182_80 {d : Nat} {st : List Value} {σ : am_I} {ρ : am_R} {g : am_J} {τ : am_T} {Q : am_Q} {x0 x1 x2 x3 x5 x6 x7 : Value} {v : Int32} : AW d 182 80 [x0, x1, x2, x3, .int v, x5, x6, x7] (st) σ ρ g τ Q = AW d 182 82 [x0, x1, x2, x3, .int v, x5, x6, x7] (.int v :: st) σ ρ g τ Q := aw_lc m182 d182_80 rfl rfl rfl
theorem d182_82 : decode cX12_leastFrom 82 = .ok (.ireturn, 1) := by decide +kernel
theorem s182_82 {d : Nat} {σ : am_I} {ρ : am_R} {g : am_J} {τ : am_T} {Q : am_Q} {x0 x1 x2 x3 x4 x5 x6 x7 : Value} {v : Int32} : AW d 182 82 [x0, x1, x2, x3, x4, x5, x6, x7] ([.int v]) σ ρ g τ Q = Q (some (.int v)) σ ρ g τ := aw_ri m182 d182_82 rfl
theorem d183_0 : decode cX12_mostAt 0 = .ok (.bipush 9, 2) := by decide +kernel
theorem s183_0 {d : Nat} {st : List Value} {σ : am_I} {ρ : am_R} {g : am_J} {τ : am_T} {Q : am_Q} {x0 x1 x2 x3 x4 x5 : Value} : AW d 183 0 [x0, x1, x2, x3, x4, x5] (st) σ ρ g τ Q = AW d 183 2 [x0, x1, x2, x3, x4, x5] (.int 9 :: st) σ ρ g τ Q := aw_lc m183 d183_0 rfl rfl rfl
theorem d183_2 : decode cX12_mostAt 2 = .ok (.iload_n 2, 1) := by decide +kernel
theorem s183_2 {d : Nat} {st : List Value} {σ : am_I} {ρ : am_R} {g : am_J} {τ : am_T} {Q : am_Q} {x0 x1 x3 x4 x5 : Value} {v : Int32} : AW d 183 2 [x0, x1, .int v, x3, x4, x5] (st) σ ρ g τ Q = AW d 183 3 [x0, x1, .int v, x3, x4, x5] (.int v :: st) σ ρ g τ Q := aw_lc m183 d183_2 rfl rfl rfl
theorem d183_3 : decode cX12_mostAt 3 = .ok (.invokestatic 232, 3) := by decide +kernel
theorem s183_3 {d : Nat} {st : List Value} {σ : am_I} {ρ : am_R} {g : am_J} {τ : am_T} {Q : am_Q} {x0 x1 x2 x3 x4 x5 : Value} {v w : Int32} (hs : st.length ≤ 4) : AW d 183 3 [x0, x1, x2, x3, x4, x5] (.int w :: .int v :: st) σ ρ g τ Q = AW d 183 6 [x0, x1, x2, x3, x4, x5] (.int (if w < v then w else v) :: st) σ ρ g τ Q := aw_min m183 d183_3 rfl rfl hs
theorem d183_6 : decode cX12_mostAt 6 = .ok (.istore 4, 2) := by decide +kernel
theorem s183_6 {d : Nat} {st : List Value} {σ : am_I} {ρ : am_R} {g : am_J} {τ : am_T} {Q : am_Q} {x0 x1 x2 x4 x5 : Value} {v : Int32} {u : Int32} : AW d 183 6 [x0, x1, x2, .int u, x4, x5] (.int v :: st) σ ρ g τ Q = AW d 183 8 [x0, x1, x2, .int u, .int v, x5] (st) σ ρ g τ Q := aw_lc m183 d183_6 rfl rfl rfl
theorem d183_8 : decode cX12_mostAt 8 = .ok (.iload 4, 2) := by decide +kernel
theorem s183_8 {d : Nat} {st : List Value} {σ : am_I} {ρ : am_R} {g : am_J} {τ : am_T} {Q : am_Q} {x0 x1 x2 x3 x5 : Value} {v : Int32} : AW d 183 8 [x0, x1, x2, x3, .int v, x5] (st) σ ρ g τ Q = AW d 183 10 [x0, x1, x2, x3, .int v, x5] (.int v :: st) σ ρ g τ Q := aw_lc m183 d183_8 rfl rfl rfl
theorem d183_10 : decode cX12_mostAt 10 = .ok (.ifCond .lt 60, 3) := by decide +kernel
theorem s183_10 {d : Nat} {st : List Value} {σ : am_I} {ρ : am_R} {g : am_J} {τ : am_T} {Q : am_Q} {x0 x1 x2 x3 x4 x5 : Value} {v : Int32} : AW d 183 10 [x0, x1, x2, x3, x4, x5] (.int v :: st) σ ρ g τ Q = if v < 0 then AW d 183 70 [x0, x1, x2, x3, x4, x5] (st) σ ρ g τ Q else AW d 183 13 [x0, x1, x2, x3, x4, x5] (st) σ ρ g τ Q := aw_br m183 d183_10 rfl rfl rfl
theorem d183_13 : decode cX12_mostAt 13 = .ok (.aload_n 0, 1) := by decide +kernel
theorem s183_13 {d : Nat} {st : List Value} {σ : am_I} {ρ : am_R} {g : am_J} {τ : am_T} {Q : am_Q} {x1 x2 x3 x4 x5 : Value} {v : Nat} : AW d 183 13 [.ref v, x1, x2, x3, x4, x5] (st) σ ρ g τ Q = AW d 183 14 [.ref v, x1, x2, x3, x4, x5] (.ref v :: st) σ ρ g τ Q := aw_lc m183 d183_13 rfl rfl rfl
theorem d183_14 : decode cX12_mostAt 14 = .ok (.getfield 169, 3) := by decide +kernel
theorem s183_14 {d : Nat} {st : List Value} {σ : am_I} {ρ : am_R} {g : am_J} {τ : am_T} {Q : am_Q} {x0 x1 x2 x3 x4 x5 : Value} {a : Nat} (ht : τ.1 a = 12) : AW d 183 14 [x0, x1, x2, x3, x4, x5] (.ref a :: st) σ ρ g τ Q = AW d 183 17 [x0, x1, x2, x3, x4, x5] (va_rf (ρ a 56) :: st) σ ρ g τ Q := aw_gr m183 d183_14 rfl rfl rfl ht
theorem d183_17 : decode cX12_mostAt 17 = .ok (.bipush 41, 2) := by decide +kernel
theorem s183_17 {d : Nat} {st : List Value} {σ : am_I} {ρ : am_R} {g : am_J} {τ : am_T} {Q : am_Q} {x0 x1 x2 x3 x4 x5 : Value} : AW d 183 17 [x0, x1, x2, x3, x4, x5] (st) σ ρ g τ Q = AW d 183 19 [x0, x1, x2, x3, x4, x5] (.int 41 :: st) σ ρ g τ Q := aw_lc m183 d183_17 rfl rfl rfl
theorem d183_19 : decode cX12_mostAt 19 = .ok (.iload_n 1, 1) := by decide +kernel
theorem s183_19 {d : Nat} {st : List Value} {σ : am_I} {ρ : am_R} {g : am_J} {τ : am_T} {Q : am_Q} {x0 x2 x3 x4 x5 : Value} {v : Int32} : AW d 183 19 [x0, .int v, x2, x3, x4, x5] (st) σ ρ g τ Q = AW d 183 20 [x0, .int v, x2, x3, x4, x5] (.int v :: st) σ ρ g τ Q := aw_lc m183 d183_19 rfl rfl rfl
theorem d183_20 : decode cX12_mostAt 20 = .ok (.iconst 1, 1) := by decide +kernel
theorem s183_20 {d : Nat} {st : List Value} {σ : am_I} {ρ : am_R} {g : am_J} {τ : am_T} {Q : am_Q} {x0 x1 x2 x3 x4 x5 : Value} : AW d 183 20 [x0, x1, x2, x3, x4, x5] (st) σ ρ g τ Q = AW d 183 21 [x0, x1, x2, x3, x4, x5] (.int 1 :: st) σ ρ g τ Q := aw_lc m183 d183_20 rfl rfl rfl
theorem d183_21 : decode cX12_mostAt 21 = .ok (.iadd, 1) := by decide +kernel
theorem s183_21 {d : Nat} {st : List Value} {σ : am_I} {ρ : am_R} {g : am_J} {τ : am_T} {Q : am_Q} {x0 x1 x2 x3 x4 x5 : Value} {v w : Int32} : AW d 183 21 [x0, x1, x2, x3, x4, x5] (.int w :: .int v :: st) σ ρ g τ Q = AW d 183 22 [x0, x1, x2, x3, x4, x5] (.int (v + w) :: st) σ ρ g τ Q := aw_lc m183 d183_21 rfl rfl rfl
theorem d183_22 : decode cX12_mostAt 22 = .ok (.imul, 1) := by decide +kernel
theorem s183_22 {d : Nat} {st : List Value} {σ : am_I} {ρ : am_R} {g : am_J} {τ : am_T} {Q : am_Q} {x0 x1 x2 x3 x4 x5 : Value} {v w : Int32} : AW d 183 22 [x0, x1, x2, x3, x4, x5] (.int w :: .int v :: st) σ ρ g τ Q = AW d 183 23 [x0, x1, x2, x3, x4, x5] (.int (v * w) :: st) σ ρ g τ Q := aw_lc m183 d183_22 rfl rfl rfl
theorem d183_23 : decode cX12_mostAt 23 = .ok (.iload_n 2, 1) := by decide +kernel
theorem s183_23 {d : Nat} {st : List Value} {σ : am_I} {ρ : am_R} {g : am_J} {τ : am_T} {Q : am_Q} {x0 x1 x3 x4 x5 : Value} {v : Int32} : AW d 183 23 [x0, x1, .int v, x3, x4, x5] (st) σ ρ g τ Q = AW d 183 24 [x0, x1, .int v, x3, x4, x5] (.int v :: st) σ ρ g τ Q := aw_lc m183 d183_23 rfl rfl rfl
theorem d183_24 : decode cX12_mostAt 24 = .ok (.iadd, 1) := by decide +kernel
theorem s183_24 {d : Nat} {st : List Value} {σ : am_I} {ρ : am_R} {g : am_J} {τ : am_T} {Q : am_Q} {x0 x1 x2 x3 x4 x5 : Value} {v w : Int32} : AW d 183 24 [x0, x1, x2, x3, x4, x5] (.int w :: .int v :: st) σ ρ g τ Q = AW d 183 25 [x0, x1, x2, x3, x4, x5] (.int (v + w) :: st) σ ρ g τ Q := aw_lc m183 d183_24 rfl rfl rfl
theorem d183_25 : decode cX12_mostAt 25 = .ok (.iload 4, 2) := by decide +kernel
theorem s183_25 {d : Nat} {st : List Value} {σ : am_I} {ρ : am_R} {g : am_J} {τ : am_T} {Q : am_Q} {x0 x1 x2 x3 x5 : Value} {v : Int32} : AW d 183 25 [x0, x1, x2, x3, .int v, x5] (st) σ ρ g τ Q = AW d 183 27 [x0, x1, x2, x3, .int v, x5] (.int v :: st) σ ρ g τ Q := aw_lc m183 d183_25 rfl rfl rfl
theorem d183_27 : decode cX12_mostAt 27 = .ok (.isub, 1) := by decide +kernel
theorem s183_27 {d : Nat} {st : List Value} {σ : am_I} {ρ : am_R} {g : am_J} {τ : am_T} {Q : am_Q} {x0 x1 x2 x3 x4 x5 : Value} {v w : Int32} : AW d 183 27 [x0, x1, x2, x3, x4, x5] (.int w :: .int v :: st) σ ρ g τ Q = AW d 183 28 [x0, x1, x2, x3, x4, x5] (.int (v - w) :: st) σ ρ g τ Q := aw_lc m183 d183_27 rfl rfl rfl
theorem d183_28 : decode cX12_mostAt 28 = .ok (.iaload, 1) := by decide +kernel
theorem s183_28 {d : Nat} {st : List Value} {σ : am_I} {ρ : am_R} {g : am_J} {τ : am_T} {Q : am_Q} {x0 x1 x2 x3 x4 x5 : Value} {a : Nat} {j : Int32} (ht : τ.1 a = 15) (hj : am_inb j (τ.2.1 a) = true) : AW d 183 28 [x0, x1, x2, x3, x4, x5] (.int j :: .ref a :: st) σ ρ g τ Q = AW d 183 29 [x0, x1, x2, x3, x4, x5] (.int (σ a j.toNatClampNeg) :: st) σ ρ g τ Q := aw_ial m183 d183_28 rfl ht hj
theorem d183_29 : decode cX12_mostAt 29 = .ok (.istore 5, 2) := by decide +kernel
theorem s183_29 {d : Nat} {st : List Value} {σ : am_I} {ρ : am_R} {g : am_J} {τ : am_T} {Q : am_Q} {x0 x1 x2 x3 x5 : Value} {v : Int32} {u : Int32} : AW d 183 29 [x0, x1, x2, x3, .int u, x5] (.int v :: st) σ ρ g τ Q = AW d 183 31 [x0, x1, x2, x3, .int u, .int v] (st) σ ρ g τ Q := aw_lc m183 d183_29 rfl rfl rfl
theorem d183_31 : decode cX12_mostAt 31 = .ok (.iload 5, 2) := by decide +kernel
theorem s183_31 {d : Nat} {st : List Value} {σ : am_I} {ρ : am_R} {g : am_J} {τ : am_T} {Q : am_Q} {x0 x1 x2 x3 x4 : Value} {v : Int32} : AW d 183 31 [x0, x1, x2, x3, x4, .int v] (st) σ ρ g τ Q = AW d 183 33 [x0, x1, x2, x3, x4, .int v] (.int v :: st) σ ρ g τ Q := aw_lc m183 d183_31 rfl rfl rfl
theorem d183_33 : decode cX12_mostAt 33 = .ok (.ifCond .lt 31, 3) := by decide +kernel
theorem s183_33 {d : Nat} {st : List Value} {σ : am_I} {ρ : am_R} {g : am_J} {τ : am_T} {Q : am_Q} {x0 x1 x2 x3 x4 x5 : Value} {v : Int32} : AW d 183 33 [x0, x1, x2, x3, x4, x5] (.int v :: st) σ ρ g τ Q = if v < 0 then AW d 183 64 [x0, x1, x2, x3, x4, x5] (st) σ ρ g τ Q else AW d 183 36 [x0, x1, x2, x3, x4, x5] (st) σ ρ g τ Q := aw_br m183 d183_33 rfl rfl rfl
theorem d183_36 : decode cX12_mostAt 36 = .ok (.iload 5, 2) := by decide +kernel
theorem s183_36 {d : Nat} {st : List Value} {σ : am_I} {ρ : am_R} {g : am_J} {τ : am_T} {Q : am_Q} {x0 x1 x2 x3 x4 : Value} {v : Int32} : AW d 183 36 [x0, x1, x2, x3, x4, .int v] (st) σ ρ g τ Q = AW d 183 38 [x0, x1, x2, x3, x4, .int v] (.int v :: st) σ ρ g τ Q := aw_lc m183 d183_36 rfl rfl rfl
theorem d183_38 : decode cX12_mostAt 38 = .ok (.aload_n 0, 1) := by decide +kernel
theorem s183_38 {d : Nat} {st : List Value} {σ : am_I} {ρ : am_R} {g : am_J} {τ : am_T} {Q : am_Q} {x1 x2 x3 x4 x5 : Value} {v : Nat} : AW d 183 38 [.ref v, x1, x2, x3, x4, x5] (st) σ ρ g τ Q = AW d 183 39 [.ref v, x1, x2, x3, x4, x5] (.ref v :: st) σ ρ g τ Q := aw_lc m183 d183_38 rfl rfl rfl
theorem d183_39 : decode cX12_mostAt 39 = .ok (.iload_n 1, 1) := by decide +kernel
theorem s183_39 {d : Nat} {st : List Value} {σ : am_I} {ρ : am_R} {g : am_J} {τ : am_T} {Q : am_Q} {x0 x2 x3 x4 x5 : Value} {v : Int32} : AW d 183 39 [x0, .int v, x2, x3, x4, x5] (st) σ ρ g τ Q = AW d 183 40 [x0, .int v, x2, x3, x4, x5] (.int v :: st) σ ρ g τ Q := aw_lc m183 d183_39 rfl rfl rfl
theorem d183_40 : decode cX12_mostAt 40 = .ok (.iload_n 3, 1) := by decide +kernel
theorem s183_40 {d : Nat} {st : List Value} {σ : am_I} {ρ : am_R} {g : am_J} {τ : am_T} {Q : am_Q} {x0 x1 x2 x4 x5 : Value} {v : Int32} : AW d 183 40 [x0, x1, x2, .int v, x4, x5] (st) σ ρ g τ Q = AW d 183 41 [x0, x1, x2, .int v, x4, x5] (.int v :: st) σ ρ g τ Q := aw_lc m183 d183_40 rfl rfl rfl
theorem d183_41 : decode cX12_mostAt 41 = .ok (.iload 4, 2) := by decide +kernel
theorem s183_41 {d : Nat} {st : List Value} {σ : am_I} {ρ : am_R} {g : am_J} {τ : am_T} {Q : am_Q} {x0 x1 x2 x3 x5 : Value} {v : Int32} : AW d 183 41 [x0, x1, x2, x3, .int v, x5] (st) σ ρ g τ Q = AW d 183 43 [x0, x1, x2, x3, .int v, x5] (.int v :: st) σ ρ g τ Q := aw_lc m183 d183_41 rfl rfl rfl
theorem d183_43 : decode cX12_mostAt 43 = .ok (.invokevirtual 229, 3) := by decide +kernel
theorem s183_43 {d : Nat} {st : List Value} {σ : am_I} {ρ : am_R} {g : am_J} {τ : am_T} {Q : am_Q} {x0 x1 x2 x3 x4 x5 : Value} {p0 : Nat} {p1 : Int32} {p2 : Int32} {p3 : Int32} (ht : τ.1 p0 = 12) (hs : st.length ≤ 4) : AW (d + 1) 183 43 [x0, x1, x2, x3, x4, x5] (.int p3 :: .int p2 :: .int p1 :: .ref p0 :: st) σ ρ g τ Q = AW d 180 0 [.ref p0, .int p1, .int p2, .int p3, am_jk, am_jk] [] σ ρ g τ (fun r9 σ ρ g τ => AW (d + 1) 183 46 [x0, x1, x2, x3, x4, x5] (r9.toList ++ st) σ ρ g τ Q) := aw_cv m183 d183_43 rfl m180 rfl rfl (by decide) en180 ok180 rfl ht hs
theorem d183_46 : decode cX12_mostAt 46 = .ok (.iadd, 1) := by decide +kernel
theorem s183_46 {d : Nat} {st : List Value} {σ : am_I} {ρ : am_R} {g : am_J} {τ : am_T} {Q : am_Q} {x0 x1 x2 x3 x4 x5 : Value} {v w : Int32} : AW d 183 46 [x0, x1, x2, x3, x4, x5] (.int w :: .int v :: st) σ ρ g τ Q = AW d 183 47 [x0, x1, x2, x3, x4, x5] (.int (v + w) :: st) σ ρ g τ Q := aw_lc m183 d183_46 rfl rfl rfl
theorem d183_47 : decode cX12_mostAt 47 = .ok (.aload_n 0, 1) := by decide +kernel
theorem s183_47 {d : Nat} {st : List Value} {σ : am_I} {ρ : am_R} {g : am_J} {τ : am_T} {Q : am_Q} {x1 x2 x3 x4 x5 : Value} {v : Nat} : AW d 183 47 [.ref v, x1, x2, x3, x4, x5] (st) σ ρ g τ Q = AW d 183 48 [.ref v, x1, x2, x3, x4, x5] (.ref v :: st) σ ρ g τ Q := aw_lc m183 d183_47 rfl rfl rfl
theorem d183_48 : decode cX12_mostAt 48 = .ok (.getfield 169, 3) := by decide +kernel
theorem s183_48 {d : Nat} {st : List Value} {σ : am_I} {ρ : am_R} {g : am_J} {τ : am_T} {Q : am_Q} {x0 x1 x2 x3 x4 x5 : Value} {a : Nat} (ht : τ.1 a = 12) : AW d 183 48 [x0, x1, x2, x3, x4, x5] (.ref a :: st) σ ρ g τ Q = AW d 183 51 [x0, x1, x2, x3, x4, x5] (va_rf (ρ a 56) :: st) σ ρ g τ Q := aw_gr m183 d183_48 rfl rfl rfl ht
theorem d183_51 : decode cX12_mostAt 51 = .ok (.bipush 41, 2) := by decide +kernel
theorem s183_51 {d : Nat} {st : List Value} {σ : am_I} {ρ : am_R} {g : am_J} {τ : am_T} {Q : am_Q} {x0 x1 x2 x3 x4 x5 : Value} : AW d 183 51 [x0, x1, x2, x3, x4, x5] (st) σ ρ g τ Q = AW d 183 53 [x0, x1, x2, x3, x4, x5] (.int 41 :: st) σ ρ g τ Q := aw_lc m183 d183_51 rfl rfl rfl
theorem d183_53 : decode cX12_mostAt 53 = .ok (.iload_n 1, 1) := by decide +kernel
theorem s183_53 {d : Nat} {st : List Value} {σ : am_I} {ρ : am_R} {g : am_J} {τ : am_T} {Q : am_Q} {x0 x2 x3 x4 x5 : Value} {v : Int32} : AW d 183 53 [x0, .int v, x2, x3, x4, x5] (st) σ ρ g τ Q = AW d 183 54 [x0, .int v, x2, x3, x4, x5] (.int v :: st) σ ρ g τ Q := aw_lc m183 d183_53 rfl rfl rfl
theorem d183_54 : decode cX12_mostAt 54 = .ok (.imul, 1) := by decide +kernel
theorem s183_54 {d : Nat} {st : List Value} {σ : am_I} {ρ : am_R} {g : am_J} {τ : am_T} {Q : am_Q} {x0 x1 x2 x3 x4 x5 : Value} {v w : Int32} : AW d 183 54 [x0, x1, x2, x3, x4, x5] (.int w :: .int v :: st) σ ρ g τ Q = AW d 183 55 [x0, x1, x2, x3, x4, x5] (.int (v * w) :: st) σ ρ g τ Q := aw_lc m183 d183_54 rfl rfl rfl
theorem d183_55 : decode cX12_mostAt 55 = .ok (.iload_n 2, 1) := by decide +kernel
theorem s183_55 {d : Nat} {st : List Value} {σ : am_I} {ρ : am_R} {g : am_J} {τ : am_T} {Q : am_Q} {x0 x1 x3 x4 x5 : Value} {v : Int32} : AW d 183 55 [x0, x1, .int v, x3, x4, x5] (st) σ ρ g τ Q = AW d 183 56 [x0, x1, .int v, x3, x4, x5] (.int v :: st) σ ρ g τ Q := aw_lc m183 d183_55 rfl rfl rfl
theorem d183_56 : decode cX12_mostAt 56 = .ok (.iadd, 1) := by decide +kernel
theorem s183_56 {d : Nat} {st : List Value} {σ : am_I} {ρ : am_R} {g : am_J} {τ : am_T} {Q : am_Q} {x0 x1 x2 x3 x4 x5 : Value} {v w : Int32} : AW d 183 56 [x0, x1, x2, x3, x4, x5] (.int w :: .int v :: st) σ ρ g τ Q = AW d 183 57 [x0, x1, x2, x3, x4, x5] (.int (v + w) :: st) σ ρ g τ Q := aw_lc m183 d183_56 rfl rfl rfl
theorem d183_57 : decode cX12_mostAt 57 = .ok (.iaload, 1) := by decide +kernel
theorem s183_57 {d : Nat} {st : List Value} {σ : am_I} {ρ : am_R} {g : am_J} {τ : am_T} {Q : am_Q} {x0 x1 x2 x3 x4 x5 : Value} {a : Nat} {j : Int32} (ht : τ.1 a = 15) (hj : am_inb j (τ.2.1 a) = true) : AW d 183 57 [x0, x1, x2, x3, x4, x5] (.int j :: .ref a :: st) σ ρ g τ Q = AW d 183 58 [x0, x1, x2, x3, x4, x5] (.int (σ a j.toNatClampNeg) :: st) σ ρ g τ Q := aw_ial m183 d183_57 rfl ht hj
theorem d183_58 : decode cX12_mostAt 58 = .ok (.if_icmp .ne 6, 3) := by decide +kernel
theorem s183_58 {d : Nat} {st : List Value} {σ : am_I} {ρ : am_R} {g : am_J} {τ : am_T} {Q : am_Q} {x0 x1 x2 x3 x4 x5 : Value} {v w : Int32} : AW d 183 58 [x0, x1, x2, x3, x4, x5] (.int w :: .int v :: st) σ ρ g τ Q = if ¬ v = w then AW d 183 64 [x0, x1, x2, x3, x4, x5] (st) σ ρ g τ Q else AW d 183 61 [x0, x1, x2, x3, x4, x5] (st) σ ρ g τ Q := aw_br m183 d183_58 rfl rfl rfl
theorem d183_61 : decode cX12_mostAt 61 = .ok (.iload 4, 2) := by decide +kernel
theorem s183_61 {d : Nat} {st : List Value} {σ : am_I} {ρ : am_R} {g : am_J} {τ : am_T} {Q : am_Q} {x0 x1 x2 x3 x5 : Value} {v : Int32} : AW d 183 61 [x0, x1, x2, x3, .int v, x5] (st) σ ρ g τ Q = AW d 183 63 [x0, x1, x2, x3, .int v, x5] (.int v :: st) σ ρ g τ Q := aw_lc m183 d183_61 rfl rfl rfl
theorem d183_63 : decode cX12_mostAt 63 = .ok (.ireturn, 1) := by decide +kernel
theorem s183_63 {d : Nat} {σ : am_I} {ρ : am_R} {g : am_J} {τ : am_T} {Q : am_Q} {x0 x1 x2 x3 x4 x5 : Value} {v : Int32} : AW d 183 63 [x0, x1, x2, x3, x4, x5] ([.int v]) σ ρ g τ Q = Q (some (.int v)) σ ρ g τ := aw_ri m183 d183_63 rfl
theorem d183_64 : decode cX12_mostAt 64 = .ok (.iinc 4 (-1), 3) := by decide +kernel
theorem s183_64 {d : Nat} {st : List Value} {σ : am_I} {ρ : am_R} {g : am_J} {τ : am_T} {Q : am_Q} {x0 x1 x2 x5 : Value} {v : Int32} {u : Int32} : AW d 183 64 [x0, x1, x2, .int u, .int v, x5] (st) σ ρ g τ Q = AW d 183 67 [x0, x1, x2, .int u, .int (v + (-1)), x5] (st) σ ρ g τ Q := aw_lc m183 d183_64 rfl rfl rfl
theorem d183_67 : decode cX12_mostAt 67 = .ok (.goto (-59), 3) := by decide +kernel
theorem s183_67 {d : Nat} {st : List Value} {σ : am_I} {ρ : am_R} {g : am_J} {τ : am_T} {Q : am_Q} {x0 x1 x2 x3 x4 x5 : Value} : AW d 183 67 [x0, x1, x2, x3, x4, x5] (st) σ ρ g τ Q = AW d 183 8 [x0, x1, x2, x3, x4, x5] (st) σ ρ g τ Q := aw_lc m183 d183_67 rfl rfl rfl
theorem d183_70 : decode cX12_mostAt 70 = .ok (.iconst 0, 1) := by decide +kernel
theorem s183_70 {d : Nat} {st : List Value} {σ : am_I} {ρ : am_R} {g : am_J} {τ : am_T} {Q : am_Q} {x0 x1 x2 x3 x4 x5 : Value} : AW d 183 70 [x0, x1, x2, x3, x4, x5] (st) σ ρ g τ Q = AW d 183 71 [x0, x1, x2, x3, x4, x5] (.int 0 :: st) σ ρ g τ Q := aw_lc m183 d183_70 rfl rfl rfl
theorem d183_71 : decode cX12_mostAt 71 = .ok (.ireturn, 1) := by decide +kernel
theorem s183_71 {d : Nat} {σ : am_I} {ρ : am_R} {g : am_J} {τ : am_T} {Q : am_Q} {x0 x1 x2 x3 x4 x5 : Value} {v : Int32} : AW d 183 71 [x0, x1, x2, x3, x4, x5] ([.int v]) σ ρ g τ Q = Q (some (.int v)) σ ρ g τ := aw_ri m183 d183_71 rfl
theorem d184_0 : decode cX12_provinceOf 0 = .ok (.aload_n 0, 1) := by decide +kernel
theorem s184_0 {d : Nat} {st : List Value} {σ : am_I} {ρ : am_R} {g : am_J} {τ : am_T} {Q : am_Q} {x1 x2 : Value} {v : Nat} : AW d 184 0 [.ref v, x1, x2] (st) σ ρ g τ Q = AW d 184 1 [.ref v, x1, x2] (.ref v :: st) σ ρ g τ Q := aw_lc m184 d184_0 rfl rfl rfl
theorem d184_1 : decode cX12_provinceOf 1 = .ok (.iconst 1, 1) := by decide +kernel
theorem s184_1 {d : Nat} {st : List Value} {σ : am_I} {ρ : am_R} {g : am_J} {τ : am_T} {Q : am_Q} {x0 x1 x2 : Value} : AW d 184 1 [x0, x1, x2] (st) σ ρ g τ Q = AW d 184 2 [x0, x1, x2] (.int 1 :: st) σ ρ g τ Q := aw_lc m184 d184_1 rfl rfl rfl
theorem d184_2 : decode cX12_provinceOf 2 = .ok (.iload_n 1, 1) := by decide +kernel
theorem s184_2 {d : Nat} {st : List Value} {σ : am_I} {ρ : am_R} {g : am_J} {τ : am_T} {Q : am_Q} {x0 x2 : Value} {v : Int32} : AW d 184 2 [x0, .int v, x2] (st) σ ρ g τ Q = AW d 184 3 [x0, .int v, x2] (.int v :: st) σ ρ g τ Q := aw_lc m184 d184_2 rfl rfl rfl
theorem d184_3 : decode cX12_provinceOf 3 = .ok (.invokevirtual 210, 3) := by decide +kernel
theorem s184_3 {d : Nat} {st : List Value} {σ : am_I} {ρ : am_R} {g : am_J} {τ : am_T} {Q : am_Q} {x0 x1 x2 : Value} {p0 : Nat} {p1 : Int32} {p2 : Int32} (ht : τ.1 p0 = 12) (hs : st.length ≤ 4) : AW (d + 1) 184 3 [x0, x1, x2] (.int p2 :: .int p1 :: .ref p0 :: st) σ ρ g τ Q = AW d 167 0 [.ref p0, .int p1, .int p2] [] σ ρ g τ (fun r9 σ ρ g τ => AW (d + 1) 184 6 [x0, x1, x2] (r9.toList ++ st) σ ρ g τ Q) := aw_cv m184 d184_3 rfl m167 rfl rfl (by decide) en167 ok167 rfl ht hs
theorem d184_6 : decode cX12_provinceOf 6 = .ok (.ifCond .eq 12, 3) := by decide +kernel
theorem s184_6 {d : Nat} {st : List Value} {σ : am_I} {ρ : am_R} {g : am_J} {τ : am_T} {Q : am_Q} {x0 x1 x2 : Value} {v : Int32} : AW d 184 6 [x0, x1, x2] (.int v :: st) σ ρ g τ Q = if v = 0 then AW d 184 18 [x0, x1, x2] (st) σ ρ g τ Q else AW d 184 9 [x0, x1, x2] (st) σ ρ g τ Q := aw_br m184 d184_6 rfl rfl rfl
theorem d184_9 : decode cX12_provinceOf 9 = .ok (.iload_n 2, 1) := by decide +kernel
theorem s184_9 {d : Nat} {st : List Value} {σ : am_I} {ρ : am_R} {g : am_J} {τ : am_T} {Q : am_Q} {x0 x1 : Value} {v : Int32} : AW d 184 9 [x0, x1, .int v] (st) σ ρ g τ Q = AW d 184 10 [x0, x1, .int v] (.int v :: st) σ ρ g τ Q := aw_lc m184 d184_9 rfl rfl rfl
theorem d184_10 : decode cX12_provinceOf 10 = .ok (.iconst 0, 1) := by decide +kernel
theorem s184_10 {d : Nat} {st : List Value} {σ : am_I} {ρ : am_R} {g : am_J} {τ : am_T} {Q : am_Q} {x0 x1 x2 : Value} : AW d 184 10 [x0, x1, x2] (st) σ ρ g τ Q = AW d 184 11 [x0, x1, x2] (.int 0 :: st) σ ρ g τ Q := aw_lc m184 d184_10 rfl rfl rfl
theorem d184_11 : decode cX12_provinceOf 11 = .ok (.iconst 4, 1) := by decide +kernel
theorem s184_11 {d : Nat} {st : List Value} {σ : am_I} {ρ : am_R} {g : am_J} {τ : am_T} {Q : am_Q} {x0 x1 x2 : Value} : AW d 184 11 [x0, x1, x2] (st) σ ρ g τ Q = AW d 184 12 [x0, x1, x2] (.int 4 :: st) σ ρ g τ Q := aw_lc m184 d184_11 rfl rfl rfl
theorem d184_12 : decode cX12_provinceOf 12 = .ok (.invokestatic 194, 3) := by decide +kernel
theorem s184_12 {d : Nat} {st : List Value} {σ : am_I} {ρ : am_R} {g : am_J} {τ : am_T} {Q : am_Q} {x0 x1 x2 : Value} {p0 : Int32} {p1 : Int32} {p2 : Int32} (hs : st.length ≤ 4) : AW (d + 1) 184 12 [x0, x1, x2] (.int p2 :: .int p1 :: .int p0 :: st) σ ρ g τ Q = AW d 165 0 [.int p0, .int p1, .int p2] [] σ ρ g τ (fun r9 σ ρ g τ => AW (d + 1) 184 15 [x0, x1, x2] (r9.toList ++ st) σ ρ g τ Q) := aw_cs m184 d184_12 rfl (by simp only [List.length_cons]; omega) rfl rfl en165 ok165 rfl hs
theorem d184_15 : decode cX12_provinceOf 15 = .ok (.ifCond .ne 5, 3) := by decide +kernel
theorem s184_15 {d : Nat} {st : List Value} {σ : am_I} {ρ : am_R} {g : am_J} {τ : am_T} {Q : am_Q} {x0 x1 x2 : Value} {v : Int32} : AW d 184 15 [x0, x1, x2] (.int v :: st) σ ρ g τ Q = if ¬ v = 0 then AW d 184 20 [x0, x1, x2] (st) σ ρ g τ Q else AW d 184 18 [x0, x1, x2] (st) σ ρ g τ Q := aw_br m184 d184_15 rfl rfl rfl
theorem d184_18 : decode cX12_provinceOf 18 = .ok (.iconst (-1), 1) := by decide +kernel
theorem s184_18 {d : Nat} {st : List Value} {σ : am_I} {ρ : am_R} {g : am_J} {τ : am_T} {Q : am_Q} {x0 x1 x2 : Value} : AW d 184 18 [x0, x1, x2] (st) σ ρ g τ Q = AW d 184 19 [x0, x1, x2] (.int (-1) :: st) σ ρ g τ Q := aw_lc m184 d184_18 rfl rfl rfl
theorem d184_19 : decode cX12_provinceOf 19 = .ok (.ireturn, 1) := by decide +kernel
theorem s184_19 {d : Nat} {σ : am_I} {ρ : am_R} {g : am_J} {τ : am_T} {Q : am_Q} {x0 x1 x2 : Value} {v : Int32} : AW d 184 19 [x0, x1, x2] ([.int v]) σ ρ g τ Q = Q (some (.int v)) σ ρ g τ := aw_ri m184 d184_19 rfl
theorem d184_20 : decode cX12_provinceOf 20 = .ok (.iload_n 2, 1) := by decide +kernel
theorem s184_20 {d : Nat} {st : List Value} {σ : am_I} {ρ : am_R} {g : am_J} {τ : am_T} {Q : am_Q} {x0 x1 : Value} {v : Int32} : AW d 184 20 [x0, x1, .int v] (st) σ ρ g τ Q = AW d 184 21 [x0, x1, .int v] (.int v :: st) σ ρ g τ Q := aw_lc m184 d184_20 rfl rfl rfl
theorem d184_21 : decode cX12_provinceOf 21 = .ok (.tableswitch 66 0 3 #[31, 38, 52, 59], 31) := by decide +kernel
theorem s184_21_0 {d : Nat} {st : List Value} {σ : am_I} {ρ : am_R} {g : am_J} {τ : am_T} {Q : am_Q} {x0 x1 x2 : Value} : AW d 184 21 [x0, x1, x2] (.int 0 :: st) σ ρ g τ Q = AW d 184 52 [x0, x1, x2] (st) σ ρ g τ Q := aw_lc m184 d184_21 rfl rfl rfl
theorem s184_21_1 {d : Nat} {st : List Value} {σ : am_I} {ρ : am_R} {g : am_J} {τ : am_T} {Q : am_Q} {x0 x1 x2 : Value} : AW d 184 21 [x0, x1, x2] (.int 1 :: st) σ ρ g τ Q = AW d 184 59 [x0, x1, x2] (st) σ ρ g τ Q := aw_lc m184 d184_21 rfl rfl rfl
theorem s184_21_2 {d : Nat} {st : List Value} {σ : am_I} {ρ : am_R} {g : am_J} {τ : am_T} {Q : am_Q} {x0 x1 x2 : Value} : AW d 184 21 [x0, x1, x2] (.int 2 :: st) σ ρ g τ Q = AW d 184 73 [x0, x1, x2] (st) σ ρ g τ Q := aw_lc m184 d184_21 rfl rfl rfl
theorem s184_21_3 {d : Nat} {st : List Value} {σ : am_I} {ρ : am_R} {g : am_J} {τ : am_T} {Q : am_Q} {x0 x1 x2 : Value} : AW d 184 21 [x0, x1, x2] (.int 3 :: st) σ ρ g τ Q = AW d 184 80 [x0, x1, x2] (st) σ ρ g τ Q := aw_lc m184 d184_21 rfl rfl rfl
theorem s184_21_d {d : Nat} {st : List Value} {σ : am_I} {ρ : am_R} {g : am_J} {τ : am_T} {Q : am_Q} {x0 x1 x2 : Value} {v : Int32} (h : v.toInt < 0 ∨ 3 < v.toInt) : AW d 184 21 [x0, x1, x2] (.int v :: st) σ ρ g τ Q = AW d 184 87 [x0, x1, x2] (st) σ ρ g τ Q := aw_lc m184 d184_21 rfl rfl (by simp only [am_lc]; rw [if_pos h]; rfl)
theorem d184_52 : decode cX12_provinceOf 52 = .ok (.aload_n 0, 1) := by decide +kernel
theorem s184_52 {d : Nat} {st : List Value} {σ : am_I} {ρ : am_R} {g : am_J} {τ : am_T} {Q : am_Q} {x1 x2 : Value} {v : Nat} : AW d 184 52 [.ref v, x1, x2] (st) σ ρ g τ Q = AW d 184 53 [.ref v, x1, x2] (.ref v :: st) σ ρ g τ Q := aw_lc m184 d184_52 rfl rfl rfl
theorem d184_53 : decode cX12_provinceOf 53 = .ok (.getfield 34, 3) := by decide +kernel
theorem s184_53 {d : Nat} {st : List Value} {σ : am_I} {ρ : am_R} {g : am_J} {τ : am_T} {Q : am_Q} {x0 x1 x2 : Value} {a : Nat} (ht : τ.1 a = 12) : AW d 184 53 [x0, x1, x2] (.ref a :: st) σ ρ g τ Q = AW d 184 56 [x0, x1, x2] (va_rf (ρ a 8) :: st) σ ρ g τ Q := aw_gr m184 d184_53 rfl rfl rfl ht
theorem d184_56 : decode cX12_provinceOf 56 = .ok (.iload_n 1, 1) := by decide +kernel
theorem s184_56 {d : Nat} {st : List Value} {σ : am_I} {ρ : am_R} {g : am_J} {τ : am_T} {Q : am_Q} {x0 x2 : Value} {v : Int32} : AW d 184 56 [x0, .int v, x2] (st) σ ρ g τ Q = AW d 184 57 [x0, .int v, x2] (.int v :: st) σ ρ g τ Q := aw_lc m184 d184_56 rfl rfl rfl
theorem d184_57 : decode cX12_provinceOf 57 = .ok (.iaload, 1) := by decide +kernel
theorem s184_57 {d : Nat} {st : List Value} {σ : am_I} {ρ : am_R} {g : am_J} {τ : am_T} {Q : am_Q} {x0 x1 x2 : Value} {a : Nat} {j : Int32} (ht : τ.1 a = 15) (hj : am_inb j (τ.2.1 a) = true) : AW d 184 57 [x0, x1, x2] (.int j :: .ref a :: st) σ ρ g τ Q = AW d 184 58 [x0, x1, x2] (.int (σ a j.toNatClampNeg) :: st) σ ρ g τ Q := aw_ial m184 d184_57 rfl ht hj
theorem d184_58 : decode cX12_provinceOf 58 = .ok (.ireturn, 1) := by decide +kernel
theorem s184_58 {d : Nat} {σ : am_I} {ρ : am_R} {g : am_J} {τ : am_T} {Q : am_Q} {x0 x1 x2 : Value} {v : Int32} : AW d 184 58 [x0, x1, x2] ([.int v]) σ ρ g τ Q = Q (some (.int v)) σ ρ g τ := aw_ri m184 d184_58 rfl
theorem d184_59 : decode cX12_provinceOf 59 = .ok (.aload_n 0, 1) := by decide +kernel
theorem s184_59 {d : Nat} {st : List Value} {σ : am_I} {ρ : am_R} {g : am_J} {τ : am_T} {Q : am_Q} {x1 x2 : Value} {v : Nat} : AW d 184 59 [.ref v, x1, x2] (st) σ ρ g τ Q = AW d 184 60 [.ref v, x1, x2] (.ref v :: st) σ ρ g τ Q := aw_lc m184 d184_59 rfl rfl rfl
theorem d184_60 : decode cX12_provinceOf 60 = .ok (.iload_n 1, 1) := by decide +kernel
theorem s184_60 {d : Nat} {st : List Value} {σ : am_I} {ρ : am_R} {g : am_J} {τ : am_T} {Q : am_Q} {x0 x2 : Value} {v : Int32} : AW d 184 60 [x0, .int v, x2] (st) σ ρ g τ Q = AW d 184 61 [x0, .int v, x2] (.int v :: st) σ ρ g τ Q := aw_lc m184 d184_60 rfl rfl rfl
theorem d184_61 : decode cX12_provinceOf 61 = .ok (.invokevirtual 202, 3) := by decide +kernel
theorem s184_61 {d : Nat} {st : List Value} {σ : am_I} {ρ : am_R} {g : am_J} {τ : am_T} {Q : am_Q} {x0 x1 x2 : Value} {p0 : Nat} {p1 : Int32} (ht : τ.1 p0 = 12) (hs : st.length ≤ 4) : AW (d + 1) 184 61 [x0, x1, x2] (.int p1 :: .ref p0 :: st) σ ρ g τ Q = AW d 168 0 [.ref p0, .int p1] [] σ ρ g τ (fun r9 σ ρ g τ => AW (d + 1) 184 64 [x0, x1, x2] (r9.toList ++ st) σ ρ g τ Q) := aw_cv m184 d184_61 rfl m168 rfl rfl (by decide) en168 ok168 rfl ht hs
theorem d184_64 : decode cX12_provinceOf 64 = .ok (.ifCond .eq 7, 3) := by decide +kernel
theorem s184_64 {d : Nat} {st : List Value} {σ : am_I} {ρ : am_R} {g : am_J} {τ : am_T} {Q : am_Q} {x0 x1 x2 : Value} {v : Int32} : AW d 184 64 [x0, x1, x2] (.int v :: st) σ ρ g τ Q = if v = 0 then AW d 184 71 [x0, x1, x2] (st) σ ρ g τ Q else AW d 184 67 [x0, x1, x2] (st) σ ρ g τ Q := aw_br m184 d184_64 rfl rfl rfl
theorem d184_67 : decode cX12_provinceOf 67 = .ok (.iconst 1, 1) := by decide +kernel
theorem s184_67 {d : Nat} {st : List Value} {σ : am_I} {ρ : am_R} {g : am_J} {τ : am_T} {Q : am_Q} {x0 x1 x2 : Value} : AW d 184 67 [x0, x1, x2] (st) σ ρ g τ Q = AW d 184 68 [x0, x1, x2] (.int 1 :: st) σ ρ g τ Q := aw_lc m184 d184_67 rfl rfl rfl
theorem d184_68 : decode cX12_provinceOf 68 = .ok (.goto 4, 3) := by decide +kernel
theorem s184_68 {d : Nat} {st : List Value} {σ : am_I} {ρ : am_R} {g : am_J} {τ : am_T} {Q : am_Q} {x0 x1 x2 : Value} : AW d 184 68 [x0, x1, x2] (st) σ ρ g τ Q = AW d 184 72 [x0, x1, x2] (st) σ ρ g τ Q := aw_lc m184 d184_68 rfl rfl rfl
theorem d184_71 : decode cX12_provinceOf 71 = .ok (.iconst 0, 1) := by decide +kernel
theorem s184_71 {d : Nat} {st : List Value} {σ : am_I} {ρ : am_R} {g : am_J} {τ : am_T} {Q : am_Q} {x0 x1 x2 : Value} : AW d 184 71 [x0, x1, x2] (st) σ ρ g τ Q = AW d 184 72 [x0, x1, x2] (.int 0 :: st) σ ρ g τ Q := aw_lc m184 d184_71 rfl rfl rfl
theorem d184_72 : decode cX12_provinceOf 72 = .ok (.ireturn, 1) := by decide +kernel
theorem s184_72 {d : Nat} {σ : am_I} {ρ : am_R} {g : am_J} {τ : am_T} {Q : am_Q} {x0 x1 x2 : Value} {v : Int32} : AW d 184 72 [x0, x1, x2] ([.int v]) σ ρ g τ Q = Q (some (.int v)) σ ρ g τ := aw_ri m184 d184_72 rfl
theorem d184_73 : decode cX12_provinceOf 73 = .ok (.aload_n 0, 1) := by decide +kernel
theorem s184_73 {d : Nat} {st : List Value} {σ : am_I} {ρ : am_R} {g : am_J} {τ : am_T} {Q : am_Q} {x1 x2 : Value} {v : Nat} : AW d 184 73 [.ref v, x1, x2] (st) σ ρ g τ Q = AW d 184 74 [.ref v, x1, x2] (.ref v :: st) σ ρ g τ Q := aw_lc m184 d184_73 rfl rfl rfl
theorem d184_74 : decode cX12_provinceOf 74 = .ok (.getfield 28, 3) := by decide +kernel
theorem s184_74 {d : Nat} {st : List Value} {σ : am_I} {ρ : am_R} {g : am_J} {τ : am_T} {Q : am_Q} {x0 x1 x2 : Value} {a : Nat} (ht : τ.1 a = 12) : AW d 184 74 [x0, x1, x2] (.ref a :: st) σ ρ g τ Q = AW d 184 77 [x0, x1, x2] (va_rf (ρ a 6) :: st) σ ρ g τ Q := aw_gr m184 d184_74 rfl rfl rfl ht
theorem d184_77 : decode cX12_provinceOf 77 = .ok (.iload_n 1, 1) := by decide +kernel
theorem s184_77 {d : Nat} {st : List Value} {σ : am_I} {ρ : am_R} {g : am_J} {τ : am_T} {Q : am_Q} {x0 x2 : Value} {v : Int32} : AW d 184 77 [x0, .int v, x2] (st) σ ρ g τ Q = AW d 184 78 [x0, .int v, x2] (.int v :: st) σ ρ g τ Q := aw_lc m184 d184_77 rfl rfl rfl
theorem d184_78 : decode cX12_provinceOf 78 = .ok (.iaload, 1) := by decide +kernel
theorem s184_78 {d : Nat} {st : List Value} {σ : am_I} {ρ : am_R} {g : am_J} {τ : am_T} {Q : am_Q} {x0 x1 x2 : Value} {a : Nat} {j : Int32} (ht : τ.1 a = 15) (hj : am_inb j (τ.2.1 a) = true) : AW d 184 78 [x0, x1, x2] (.int j :: .ref a :: st) σ ρ g τ Q = AW d 184 79 [x0, x1, x2] (.int (σ a j.toNatClampNeg) :: st) σ ρ g τ Q := aw_ial m184 d184_78 rfl ht hj
theorem d184_79 : decode cX12_provinceOf 79 = .ok (.ireturn, 1) := by decide +kernel
theorem s184_79 {d : Nat} {σ : am_I} {ρ : am_R} {g : am_J} {τ : am_T} {Q : am_Q} {x0 x1 x2 : Value} {v : Int32} : AW d 184 79 [x0, x1, x2] ([.int v]) σ ρ g τ Q = Q (some (.int v)) σ ρ g τ := aw_ri m184 d184_79 rfl
theorem d184_80 : decode cX12_provinceOf 80 = .ok (.aload_n 0, 1) := by decide +kernel
theorem s184_80 {d : Nat} {st : List Value} {σ : am_I} {ρ : am_R} {g : am_J} {τ : am_T} {Q : am_Q} {x1 x2 : Value} {v : Nat} : AW d 184 80 [.ref v, x1, x2] (st) σ ρ g τ Q = AW d 184 81 [.ref v, x1, x2] (.ref v :: st) σ ρ g τ Q := aw_lc m184 d184_80 rfl rfl rfl
theorem d184_81 : decode cX12_provinceOf 81 = .ok (.getfield 31, 3) := by decide +kernel
theorem s184_81 {d : Nat} {st : List Value} {σ : am_I} {ρ : am_R} {g : am_J} {τ : am_T} {Q : am_Q} {x0 x1 x2 : Value} {a : Nat} (ht : τ.1 a = 12) : AW d 184 81 [x0, x1, x2] (.ref a :: st) σ ρ g τ Q = AW d 184 84 [x0, x1, x2] (va_rf (ρ a 7) :: st) σ ρ g τ Q := aw_gr m184 d184_81 rfl rfl rfl ht
theorem d184_84 : decode cX12_provinceOf 84 = .ok (.iload_n 1, 1) := by decide +kernel
theorem s184_84 {d : Nat} {st : List Value} {σ : am_I} {ρ : am_R} {g : am_J} {τ : am_T} {Q : am_Q} {x0 x2 : Value} {v : Int32} : AW d 184 84 [x0, .int v, x2] (st) σ ρ g τ Q = AW d 184 85 [x0, .int v, x2] (.int v :: st) σ ρ g τ Q := aw_lc m184 d184_84 rfl rfl rfl
theorem d184_85 : decode cX12_provinceOf 85 = .ok (.iaload, 1) := by decide +kernel
theorem s184_85 {d : Nat} {st : List Value} {σ : am_I} {ρ : am_R} {g : am_J} {τ : am_T} {Q : am_Q} {x0 x1 x2 : Value} {a : Nat} {j : Int32} (ht : τ.1 a = 15) (hj : am_inb j (τ.2.1 a) = true) : AW d 184 85 [x0, x1, x2] (.int j :: .ref a :: st) σ ρ g τ Q = AW d 184 86 [x0, x1, x2] (.int (σ a j.toNatClampNeg) :: st) σ ρ g τ Q := aw_ial m184 d184_85 rfl ht hj
theorem d184_86 : decode cX12_provinceOf 86 = .ok (.ireturn, 1) := by decide +kernel
theorem s184_86 {d : Nat} {σ : am_I} {ρ : am_R} {g : am_J} {τ : am_T} {Q : am_Q} {x0 x1 x2 : Value} {v : Int32} : AW d 184 86 [x0, x1, x2] ([.int v]) σ ρ g τ Q = Q (some (.int v)) σ ρ g τ := aw_ri m184 d184_86 rfl
theorem d184_87 : decode cX12_provinceOf 87 = .ok (.aload_n 0, 1) := by decide +kernel
theorem s184_87 {d : Nat} {st : List Value} {σ : am_I} {ρ : am_R} {g : am_J} {τ : am_T} {Q : am_Q} {x1 x2 : Value} {v : Nat} : AW d 184 87 [.ref v, x1, x2] (st) σ ρ g τ Q = AW d 184 88 [.ref v, x1, x2] (.ref v :: st) σ ρ g τ Q := aw_lc m184 d184_87 rfl rfl rfl
theorem d184_88 : decode cX12_provinceOf 88 = .ok (.getfield 25, 3) := by decide +kernel
theorem s184_88 {d : Nat} {st : List Value} {σ : am_I} {ρ : am_R} {g : am_J} {τ : am_T} {Q : am_Q} {x0 x1 x2 : Value} {a : Nat} (ht : τ.1 a = 12) : AW d 184 88 [x0, x1, x2] (.ref a :: st) σ ρ g τ Q = AW d 184 91 [x0, x1, x2] (va_rf (ρ a 5) :: st) σ ρ g τ Q := aw_gr m184 d184_88 rfl rfl rfl ht
theorem d184_91 : decode cX12_provinceOf 91 = .ok (.iload_n 1, 1) := by decide +kernel
theorem s184_91 {d : Nat} {st : List Value} {σ : am_I} {ρ : am_R} {g : am_J} {τ : am_T} {Q : am_Q} {x0 x2 : Value} {v : Int32} : AW d 184 91 [x0, .int v, x2] (st) σ ρ g τ Q = AW d 184 92 [x0, .int v, x2] (.int v :: st) σ ρ g τ Q := aw_lc m184 d184_91 rfl rfl rfl
theorem d184_92 : decode cX12_provinceOf 92 = .ok (.iaload, 1) := by decide +kernel
theorem s184_92 {d : Nat} {st : List Value} {σ : am_I} {ρ : am_R} {g : am_J} {τ : am_T} {Q : am_Q} {x0 x1 x2 : Value} {a : Nat} {j : Int32} (ht : τ.1 a = 15) (hj : am_inb j (τ.2.1 a) = true) : AW d 184 92 [x0, x1, x2] (.int j :: .ref a :: st) σ ρ g τ Q = AW d 184 93 [x0, x1, x2] (.int (σ a j.toNatClampNeg) :: st) σ ρ g τ Q := aw_ial m184 d184_92 rfl ht hj
theorem d184_93 : decode cX12_provinceOf 93 = .ok (.ireturn, 1) := by decide +kernel
theorem s184_93 {d : Nat} {σ : am_I} {ρ : am_R} {g : am_J} {τ : am_T} {Q : am_Q} {x0 x1 x2 : Value} {v : Int32} : AW d 184 93 [x0, x1, x2] ([.int v]) σ ρ g τ Q = Q (some (.int v)) σ ρ g τ := aw_ri m184 d184_93 rfl
theorem d185_0 : decode cX12_here 0 = .ok (.aload_n 0, 1) := by decide +kernel
theorem s185_0 {d : Nat} {st : List Value} {σ : am_I} {ρ : am_R} {g : am_J} {τ : am_T} {Q : am_Q} {v : Nat} : AW d 185 0 [.ref v] (st) σ ρ g τ Q = AW d 185 1 [.ref v] (.ref v :: st) σ ρ g τ Q := aw_lc m185 d185_0 rfl rfl rfl
theorem d185_1 : decode cX12_here 1 = .ok (.getfield 238, 3) := by decide +kernel
theorem s185_1 {d : Nat} {st : List Value} {σ : am_I} {ρ : am_R} {g : am_J} {τ : am_T} {Q : am_Q} {x0 : Value} {a : Nat} (ht : τ.1 a = 12) : AW d 185 1 [x0] (.ref a :: st) σ ρ g τ Q = AW d 185 4 [x0] (.int (σ a 57) :: st) σ ρ g τ Q := aw_gi m185 d185_1 rfl rfl rfl ht
theorem d185_4 : decode cX12_here 4 = .ok (.aload_n 0, 1) := by decide +kernel
theorem s185_4 {d : Nat} {st : List Value} {σ : am_I} {ρ : am_R} {g : am_J} {τ : am_T} {Q : am_Q} {v : Nat} : AW d 185 4 [.ref v] (st) σ ρ g τ Q = AW d 185 5 [.ref v] (.ref v :: st) σ ρ g τ Q := aw_lc m185 d185_4 rfl rfl rfl
theorem d185_5 : decode cX12_here 5 = .ok (.getfield 242, 3) := by decide +kernel
theorem s185_5 {d : Nat} {st : List Value} {σ : am_I} {ρ : am_R} {g : am_J} {τ : am_T} {Q : am_Q} {x0 : Value} {a : Nat} (ht : τ.1 a = 12) : AW d 185 5 [x0] (.ref a :: st) σ ρ g τ Q = AW d 185 8 [x0] (.int (σ a 44) :: st) σ ρ g τ Q := aw_gi m185 d185_5 rfl rfl rfl ht
theorem d185_8 : decode cX12_here 8 = .ok (.if_icmp .ge 30, 3) := by decide +kernel
theorem s185_8 {d : Nat} {st : List Value} {σ : am_I} {ρ : am_R} {g : am_J} {τ : am_T} {Q : am_Q} {x0 : Value} {v w : Int32} : AW d 185 8 [x0] (.int w :: .int v :: st) σ ρ g τ Q = if w ≤ v then AW d 185 38 [x0] (st) σ ρ g τ Q else AW d 185 11 [x0] (st) σ ρ g τ Q := aw_br m185 d185_8 rfl rfl rfl
theorem d185_11 : decode cX12_here 11 = .ok (.aload_n 0, 1) := by decide +kernel
theorem s185_11 {d : Nat} {st : List Value} {σ : am_I} {ρ : am_R} {g : am_J} {τ : am_T} {Q : am_Q} {v : Nat} : AW d 185 11 [.ref v] (st) σ ρ g τ Q = AW d 185 12 [.ref v] (.ref v :: st) σ ρ g τ Q := aw_lc m185 d185_11 rfl rfl rfl
theorem d185_12 : decode cX12_here 12 = .ok (.getfield 138, 3) := by decide +kernel
theorem s185_12 {d : Nat} {st : List Value} {σ : am_I} {ρ : am_R} {g : am_J} {τ : am_T} {Q : am_Q} {x0 : Value} {a : Nat} (ht : τ.1 a = 12) : AW d 185 12 [x0] (.ref a :: st) σ ρ g τ Q = AW d 185 15 [x0] (va_rf (ρ a 43) :: st) σ ρ g τ Q := aw_gr m185 d185_12 rfl rfl rfl ht
theorem d185_15 : decode cX12_here 15 = .ok (.aload_n 0, 1) := by decide +kernel
theorem s185_15 {d : Nat} {st : List Value} {σ : am_I} {ρ : am_R} {g : am_J} {τ : am_T} {Q : am_Q} {v : Nat} : AW d 185 15 [.ref v] (st) σ ρ g τ Q = AW d 185 16 [.ref v] (.ref v :: st) σ ρ g τ Q := aw_lc m185 d185_15 rfl rfl rfl
theorem d185_16 : decode cX12_here 16 = .ok (.getfield 238, 3) := by decide +kernel
theorem s185_16 {d : Nat} {st : List Value} {σ : am_I} {ρ : am_R} {g : am_J} {τ : am_T} {Q : am_Q} {x0 : Value} {a : Nat} (ht : τ.1 a = 12) : AW d 185 16 [x0] (.ref a :: st) σ ρ g τ Q = AW d 185 19 [x0] (.int (σ a 57) :: st) σ ρ g τ Q := aw_gi m185 d185_16 rfl rfl rfl ht
theorem d185_19 : decode cX12_here 19 = .ok (.iaload, 1) := by decide +kernel
theorem s185_19 {d : Nat} {st : List Value} {σ : am_I} {ρ : am_R} {g : am_J} {τ : am_T} {Q : am_Q} {x0 : Value} {a : Nat} {j : Int32} (ht : τ.1 a = 15) (hj : am_inb j (τ.2.1 a) = true) : AW d 185 19 [x0] (.int j :: .ref a :: st) σ ρ g τ Q = AW d 185 20 [x0] (.int (σ a j.toNatClampNeg) :: st) σ ρ g τ Q := aw_ial m185 d185_19 rfl ht hj
theorem d185_20 : decode cX12_here 20 = .ok (.bipush 32, 2) := by decide +kernel
theorem s185_20 {d : Nat} {st : List Value} {σ : am_I} {ρ : am_R} {g : am_J} {τ : am_T} {Q : am_Q} {x0 : Value} : AW d 185 20 [x0] (st) σ ρ g τ Q = AW d 185 22 [x0] (.int 32 :: st) σ ρ g τ Q := aw_lc m185 d185_20 rfl rfl rfl
theorem d185_22 : decode cX12_here 22 = .ok (.if_icmp .ne 16, 3) := by decide +kernel
theorem s185_22 {d : Nat} {st : List Value} {σ : am_I} {ρ : am_R} {g : am_J} {τ : am_T} {Q : am_Q} {x0 : Value} {v w : Int32} : AW d 185 22 [x0] (.int w :: .int v :: st) σ ρ g τ Q = if ¬ v = w then AW d 185 38 [x0] (st) σ ρ g τ Q else AW d 185 25 [x0] (st) σ ρ g τ Q := aw_br m185 d185_22 rfl rfl rfl
theorem d185_25 : decode cX12_here 25 = .ok (.aload_n 0, 1) := by decide +kernel
theorem s185_25 {d : Nat} {st : List Value} {σ : am_I} {ρ : am_R} {g : am_J} {τ : am_T} {Q : am_Q} {v : Nat} : AW d 185 25 [.ref v] (st) σ ρ g τ Q = AW d 185 26 [.ref v] (.ref v :: st) σ ρ g τ Q := aw_lc m185 d185_25 rfl rfl rfl
theorem d185_26 : decode cX12_here 26 = .ok (.dup, 1) := by decide +kernel
theorem s185_26 {d : Nat} {st : List Value} {σ : am_I} {ρ : am_R} {g : am_J} {τ : am_T} {Q : am_Q} {x0 : Value} {v : Int32} : AW d 185 26 [x0] (.int v :: st) σ ρ g τ Q = AW d 185 27 [x0] (.int v :: .int v :: st) σ ρ g τ Q := aw_lc m185 d185_26 rfl rfl rfl
theorem s185_26r {d : Nat} {st : List Value} {σ : am_I} {ρ : am_R} {g : am_J} {τ : am_T} {Q : am_Q} {x0 : Value} {v : Nat} : AW d 185 26 [x0] (.ref v :: st) σ ρ g τ Q = AW d 185 27 [x0] (.ref v :: .ref v :: st) σ ρ g τ Q := aw_lc m185 d185_26 rfl rfl rfl
theorem d185_27 : decode cX12_here 27 = .ok (.getfield 238, 3) := by decide +kernel
theorem s185_27 {d : Nat} {st : List Value} {σ : am_I} {ρ : am_R} {g : am_J} {τ : am_T} {Q : am_Q} {x0 : Value} {a : Nat} (ht : τ.1 a = 12) : AW d 185 27 [x0] (.ref a :: st) σ ρ g τ Q = AW d 185 30 [x0] (.int (σ a 57) :: st) σ ρ g τ Q := aw_gi m185 d185_27 rfl rfl rfl ht
theorem d185_30 : decode cX12_here 30 = .ok (.iconst 1, 1) := by decide +kernel
theorem s185_30 {d : Nat} {st : List Value} {σ : am_I} {ρ : am_R} {g : am_J} {τ : am_T} {Q : am_Q} {x0 : Value} : AW d 185 30 [x0] (st) σ ρ g τ Q = AW d 185 31 [x0] (.int 1 :: st) σ ρ g τ Q := aw_lc m185 d185_30 rfl rfl rfl
theorem d185_31 : decode cX12_here 31 = .ok (.iadd, 1) := by decide +kernel
theorem s185_31 {d : Nat} {st : List Value} {σ : am_I} {ρ : am_R} {g : am_J} {τ : am_T} {Q : am_Q} {x0 : Value} {v w : Int32} : AW d 185 31 [x0] (.int w :: .int v :: st) σ ρ g τ Q = AW d 185 32 [x0] (.int (v + w) :: st) σ ρ g τ Q := aw_lc m185 d185_31 rfl rfl rfl
theorem d185_32 : decode cX12_here 32 = .ok (.putfield 238, 3) := by decide +kernel
theorem s185_32 {d : Nat} {st : List Value} {σ : am_I} {ρ : am_R} {g : am_J} {τ : am_T} {Q : am_Q} {x0 : Value} {a : Nat} {v : Int32} (ht : τ.1 a = 12) : AW d 185 32 [x0] (.int v :: .ref a :: st) σ ρ g τ Q = AW d 185 35 [x0] (st) (am_u σ a 57 v) ρ g τ Q := aw_pi m185 d185_32 rfl rfl (Or.inl rfl) rfl ht
theorem d185_35 : decode cX12_here 35 = .ok (.goto (-35), 3) := by decide +kernel
theorem s185_35 {d : Nat} {st : List Value} {σ : am_I} {ρ : am_R} {g : am_J} {τ : am_T} {Q : am_Q} {x0 : Value} : AW d 185 35 [x0] (st) σ ρ g τ Q = AW d 185 0 [x0] (st) σ ρ g τ Q := aw_lc m185 d185_35 rfl rfl rfl
theorem d185_38 : decode cX12_here 38 = .ok (.aload_n 0, 1) := by decide +kernel
theorem s185_38 {d : Nat} {st : List Value} {σ : am_I} {ρ : am_R} {g : am_J} {τ : am_T} {Q : am_Q} {v : Nat} : AW d 185 38 [.ref v] (st) σ ρ g τ Q = AW d 185 39 [.ref v] (.ref v :: st) σ ρ g τ Q := aw_lc m185 d185_38 rfl rfl rfl
theorem d185_39 : decode cX12_here 39 = .ok (.getfield 238, 3) := by decide +kernel
theorem s185_39 {d : Nat} {st : List Value} {σ : am_I} {ρ : am_R} {g : am_J} {τ : am_T} {Q : am_Q} {x0 : Value} {a : Nat} (ht : τ.1 a = 12) : AW d 185 39 [x0] (.ref a :: st) σ ρ g τ Q = AW d 185 42 [x0] (.int (σ a 57) :: st) σ ρ g τ Q := aw_gi m185 d185_39 rfl rfl rfl ht
theorem d185_42 : decode cX12_here 42 = .ok (.aload_n 0, 1) := by decide +kernel
theorem s185_42 {d : Nat} {st : List Value} {σ : am_I} {ρ : am_R} {g : am_J} {τ : am_T} {Q : am_Q} {v : Nat} : AW d 185 42 [.ref v] (st) σ ρ g τ Q = AW d 185 43 [.ref v] (.ref v :: st) σ ρ g τ Q := aw_lc m185 d185_42 rfl rfl rfl
theorem d185_43 : decode cX12_here 43 = .ok (.getfield 242, 3) := by decide +kernel
theorem s185_43 {d : Nat} {st : List Value} {σ : am_I} {ρ : am_R} {g : am_J} {τ : am_T} {Q : am_Q} {x0 : Value} {a : Nat} (ht : τ.1 a = 12) : AW d 185 43 [x0] (.ref a :: st) σ ρ g τ Q = AW d 185 46 [x0] (.int (σ a 44) :: st) σ ρ g τ Q := aw_gi m185 d185_43 rfl rfl rfl ht
theorem d185_46 : decode cX12_here 46 = .ok (.if_icmp .ge 15, 3) := by decide +kernel
theorem s185_46 {d : Nat} {st : List Value} {σ : am_I} {ρ : am_R} {g : am_J} {τ : am_T} {Q : am_Q} {x0 : Value} {v w : Int32} : AW d 185 46 [x0] (.int w :: .int v :: st) σ ρ g τ Q = if w ≤ v then AW d 185 61 [x0] (st) σ ρ g τ Q else AW d 185 49 [x0] (st) σ ρ g τ Q := aw_br m185 d185_46 rfl rfl rfl
theorem d185_49 : decode cX12_here 49 = .ok (.aload_n 0, 1) := by decide +kernel
theorem s185_49 {d : Nat} {st : List Value} {σ : am_I} {ρ : am_R} {g : am_J} {τ : am_T} {Q : am_Q} {v : Nat} : AW d 185 49 [.ref v] (st) σ ρ g τ Q = AW d 185 50 [.ref v] (.ref v :: st) σ ρ g τ Q := aw_lc m185 d185_49 rfl rfl rfl
theorem d185_50 : decode cX12_here 50 = .ok (.getfield 138, 3) := by decide +kernel
theorem s185_50 {d : Nat} {st : List Value} {σ : am_I} {ρ : am_R} {g : am_J} {τ : am_T} {Q : am_Q} {x0 : Value} {a : Nat} (ht : τ.1 a = 12) : AW d 185 50 [x0] (.ref a :: st) σ ρ g τ Q = AW d 185 53 [x0] (va_rf (ρ a 43) :: st) σ ρ g τ Q := aw_gr m185 d185_50 rfl rfl rfl ht
theorem d185_53 : decode cX12_here 53 = .ok (.aload_n 0, 1) := by decide +kernel
theorem s185_53 {d : Nat} {st : List Value} {σ : am_I} {ρ : am_R} {g : am_J} {τ : am_T} {Q : am_Q} {v : Nat} : AW d 185 53 [.ref v] (st) σ ρ g τ Q = AW d 185 54 [.ref v] (.ref v :: st) σ ρ g τ Q := aw_lc m185 d185_53 rfl rfl rfl
theorem d185_54 : decode cX12_here 54 = .ok (.getfield 238, 3) := by decide +kernel
theorem s185_54 {d : Nat} {st : List Value} {σ : am_I} {ρ : am_R} {g : am_J} {τ : am_T} {Q : am_Q} {x0 : Value} {a : Nat} (ht : τ.1 a = 12) : AW d 185 54 [x0] (.ref a :: st) σ ρ g τ Q = AW d 185 57 [x0] (.int (σ a 57) :: st) σ ρ g τ Q := aw_gi m185 d185_54 rfl rfl rfl ht
theorem d185_57 : decode cX12_here 57 = .ok (.iaload, 1) := by decide +kernel
theorem s185_57 {d : Nat} {st : List Value} {σ : am_I} {ρ : am_R} {g : am_J} {τ : am_T} {Q : am_Q} {x0 : Value} {a : Nat} {j : Int32} (ht : τ.1 a = 15) (hj : am_inb j (τ.2.1 a) = true) : AW d 185 57 [x0] (.int j :: .ref a :: st) σ ρ g τ Q = AW d 185 58 [x0] (.int (σ a j.toNatClampNeg) :: st) σ ρ g τ Q := aw_ial m185 d185_57 rfl ht hj
theorem d185_58 : decode cX12_here 58 = .ok (.goto 4, 3) := by decide +kernel
theorem s185_58 {d : Nat} {st : List Value} {σ : am_I} {ρ : am_R} {g : am_J} {τ : am_T} {Q : am_Q} {x0 : Value} : AW d 185 58 [x0] (st) σ ρ g τ Q = AW d 185 62 [x0] (st) σ ρ g τ Q := aw_lc m185 d185_58 rfl rfl rfl
theorem d185_61 : decode cX12_here 61 = .ok (.iconst (-1), 1) := by decide +kernel
theorem s185_61 {d : Nat} {st : List Value} {σ : am_I} {ρ : am_R} {g : am_J} {τ : am_T} {Q : am_Q} {x0 : Value} : AW d 185 61 [x0] (st) σ ρ g τ Q = AW d 185 62 [x0] (.int (-1) :: st) σ ρ g τ Q := aw_lc m185 d185_61 rfl rfl rfl
theorem d185_62 : decode cX12_here 62 = .ok (.ireturn, 1) := by decide +kernel
theorem s185_62 {d : Nat} {σ : am_I} {ρ : am_R} {g : am_J} {τ : am_T} {Q : am_Q} {x0 : Value} {v : Int32} : AW d 185 62 [x0] ([.int v]) σ ρ g τ Q = Q (some (.int v)) σ ρ g τ := aw_ri m185 d185_62 rfl
theorem d186_0 : decode cX12_bad 0 = .ok (.aload_n 0, 1) := by decide +kernel
theorem s186_0 {d : Nat} {st : List Value} {σ : am_I} {ρ : am_R} {g : am_J} {τ : am_T} {Q : am_Q} {v : Nat} : AW d 186 0 [.ref v] (st) σ ρ g τ Q = AW d 186 1 [.ref v] (.ref v :: st) σ ρ g τ Q := aw_lc m186 d186_0 rfl rfl rfl
theorem d186_1 : decode cX12_bad 1 = .ok (.getfield 245, 3) := by decide +kernel
theorem s186_1 {d : Nat} {st : List Value} {σ : am_I} {ρ : am_R} {g : am_J} {τ : am_T} {Q : am_Q} {x0 : Value} {a : Nat} (ht : τ.1 a = 12) : AW d 186 1 [x0] (.ref a :: st) σ ρ g τ Q = AW d 186 4 [x0] (.int (σ a 58) :: st) σ ρ g τ Q := aw_gi m186 d186_1 rfl rfl rfl ht
theorem d186_4 : decode cX12_bad 4 = .ok (.ifCond .ge 16, 3) := by decide +kernel
theorem s186_4 {d : Nat} {st : List Value} {σ : am_I} {ρ : am_R} {g : am_J} {τ : am_T} {Q : am_Q} {x0 : Value} {v : Int32} : AW d 186 4 [x0] (.int v :: st) σ ρ g τ Q = if 0 ≤ v then AW d 186 20 [x0] (st) σ ρ g τ Q else AW d 186 7 [x0] (st) σ ρ g τ Q := aw_br m186 d186_4 rfl rfl rfl
theorem d186_7 : decode cX12_bad 7 = .ok (.aload_n 0, 1) := by decide +kernel
theorem s186_7 {d : Nat} {st : List Value} {σ : am_I} {ρ : am_R} {g : am_J} {τ : am_T} {Q : am_Q} {v : Nat} : AW d 186 7 [.ref v] (st) σ ρ g τ Q = AW d 186 8 [.ref v] (.ref v :: st) σ ρ g τ Q := aw_lc m186 d186_7 rfl rfl rfl
theorem d186_8 : decode cX12_bad 8 = .ok (.invokevirtual 248, 3) := by decide +kernel
theorem s186_8 {d : Nat} {st : List Value} {σ : am_I} {ρ : am_R} {g : am_J} {τ : am_T} {Q : am_Q} {x0 : Value} {p0 : Nat} (ht : τ.1 p0 = 12) (hs : st.length ≤ 4) : AW (d + 1) 186 8 [x0] (.ref p0 :: st) σ ρ g τ Q = AW d 185 0 [.ref p0] [] σ ρ g τ (fun r9 σ ρ g τ => AW (d + 1) 186 11 [x0] (r9.toList ++ st) σ ρ g τ Q) := aw_cv m186 d186_8 rfl m185 rfl rfl (by decide) en185 ok185 rfl ht hs
theorem d186_11 : decode cX12_bad 11 = .ok (.pop, 1) := by decide +kernel
theorem s186_11 {d : Nat} {st : List Value} {σ : am_I} {ρ : am_R} {g : am_J} {τ : am_T} {Q : am_Q} {x0 : Value} {v : Int32} : AW d 186 11 [x0] (.int v :: st) σ ρ g τ Q = AW d 186 12 [x0] (st) σ ρ g τ Q := aw_lc m186 d186_11 rfl rfl rfl
theorem d186_12 : decode cX12_bad 12 = .ok (.aload_n 0, 1) := by decide +kernel
theorem s186_12 {d : Nat} {st : List Value} {σ : am_I} {ρ : am_R} {g : am_J} {τ : am_T} {Q : am_Q} {v : Nat} : AW d 186 12 [.ref v] (st) σ ρ g τ Q = AW d 186 13 [.ref v] (.ref v :: st) σ ρ g τ Q := aw_lc m186 d186_12 rfl rfl rfl
theorem d186_13 : decode cX12_bad 13 = .ok (.aload_n 0, 1) := by decide +kernel
theorem s186_13 {d : Nat} {st : List Value} {σ : am_I} {ρ : am_R} {g : am_J} {τ : am_T} {Q : am_Q} {v : Nat} : AW d 186 13 [.ref v] (st) σ ρ g τ Q = AW d 186 14 [.ref v] (.ref v :: st) σ ρ g τ Q := aw_lc m186 d186_13 rfl rfl rfl
theorem d186_14 : decode cX12_bad 14 = .ok (.getfield 238, 3) := by decide +kernel
theorem s186_14 {d : Nat} {st : List Value} {σ : am_I} {ρ : am_R} {g : am_J} {τ : am_T} {Q : am_Q} {x0 : Value} {a : Nat} (ht : τ.1 a = 12) : AW d 186 14 [x0] (.ref a :: st) σ ρ g τ Q = AW d 186 17 [x0] (.int (σ a 57) :: st) σ ρ g τ Q := aw_gi m186 d186_14 rfl rfl rfl ht
theorem d186_17 : decode cX12_bad 17 = .ok (.putfield 245, 3) := by decide +kernel
theorem s186_17 {d : Nat} {st : List Value} {σ : am_I} {ρ : am_R} {g : am_J} {τ : am_T} {Q : am_Q} {x0 : Value} {a : Nat} {v : Int32} (ht : τ.1 a = 12) : AW d 186 17 [x0] (.int v :: .ref a :: st) σ ρ g τ Q = AW d 186 20 [x0] (st) (am_u σ a 58 v) ρ g τ Q := aw_pi m186 d186_17 rfl rfl (Or.inl rfl) rfl ht
theorem d186_20 : decode cX12_bad 20 = .ok (.iconst 0, 1) := by decide +kernel
theorem s186_20 {d : Nat} {st : List Value} {σ : am_I} {ρ : am_R} {g : am_J} {τ : am_T} {Q : am_Q} {x0 : Value} : AW d 186 20 [x0] (st) σ ρ g τ Q = AW d 186 21 [x0] (.int 0 :: st) σ ρ g τ Q := aw_lc m186 d186_20 rfl rfl rfl
theorem d186_21 : decode cX12_bad 21 = .ok (.ireturn, 1) := by decide +kernel
theorem s186_21 {d : Nat} {σ : am_I} {ρ : am_R} {g : am_J} {τ : am_T} {Q : am_Q} {x0 : Value} {v : Int32} (hv : am_b01 v = true) : AW d 186 21 [x0] ([.int v]) σ ρ g τ Q = Q (some (.int v)) σ ρ g τ := aw_rz m186 d186_21 rfl hv
theorem d187_0 : decode cX12_isLetter 0 = .ok (.iload_n 1, 1) := by decide +kernel
theorem s187_0 {d : Nat} {st : List Value} {σ : am_I} {ρ : am_R} {g : am_J} {τ : am_T} {Q : am_Q} {x0 : Value} {v : Int32} : AW d 187 0 [x0, .int v] (st) σ ρ g τ Q = AW d 187 1 [x0, .int v] (.int v :: st) σ ρ g τ Q := aw_lc m187 d187_0 rfl rfl rfl
theorem d187_1 : decode cX12_isLetter 1 = .ok (.aload_n 0, 1) := by decide +kernel
theorem s187_1 {d : Nat} {st : List Value} {σ : am_I} {ρ : am_R} {g : am_J} {τ : am_T} {Q : am_Q} {x1 : Value} {v : Nat} : AW d 187 1 [.ref v, x1] (st) σ ρ g τ Q = AW d 187 2 [.ref v, x1] (.ref v :: st) σ ρ g τ Q := aw_lc m187 d187_1 rfl rfl rfl
theorem d187_2 : decode cX12_isLetter 2 = .ok (.getfield 242, 3) := by decide +kernel
theorem s187_2 {d : Nat} {st : List Value} {σ : am_I} {ρ : am_R} {g : am_J} {τ : am_T} {Q : am_Q} {x0 x1 : Value} {a : Nat} (ht : τ.1 a = 12) : AW d 187 2 [x0, x1] (.ref a :: st) σ ρ g τ Q = AW d 187 5 [x0, x1] (.int (σ a 44) :: st) σ ρ g τ Q := aw_gi m187 d187_2 rfl rfl rfl ht
theorem d187_5 : decode cX12_isLetter 5 = .ok (.if_icmp .ge 29, 3) := by decide +kernel
theorem s187_5 {d : Nat} {st : List Value} {σ : am_I} {ρ : am_R} {g : am_J} {τ : am_T} {Q : am_Q} {x0 x1 : Value} {v w : Int32} : AW d 187 5 [x0, x1] (.int w :: .int v :: st) σ ρ g τ Q = if w ≤ v then AW d 187 34 [x0, x1] (st) σ ρ g τ Q else AW d 187 8 [x0, x1] (st) σ ρ g τ Q := aw_br m187 d187_5 rfl rfl rfl
theorem d187_8 : decode cX12_isLetter 8 = .ok (.aload_n 0, 1) := by decide +kernel
theorem s187_8 {d : Nat} {st : List Value} {σ : am_I} {ρ : am_R} {g : am_J} {τ : am_T} {Q : am_Q} {x1 : Value} {v : Nat} : AW d 187 8 [.ref v, x1] (st) σ ρ g τ Q = AW d 187 9 [.ref v, x1] (.ref v :: st) σ ρ g τ Q := aw_lc m187 d187_8 rfl rfl rfl
theorem d187_9 : decode cX12_isLetter 9 = .ok (.getfield 138, 3) := by decide +kernel
theorem s187_9 {d : Nat} {st : List Value} {σ : am_I} {ρ : am_R} {g : am_J} {τ : am_T} {Q : am_Q} {x0 x1 : Value} {a : Nat} (ht : τ.1 a = 12) : AW d 187 9 [x0, x1] (.ref a :: st) σ ρ g τ Q = AW d 187 12 [x0, x1] (va_rf (ρ a 43) :: st) σ ρ g τ Q := aw_gr m187 d187_9 rfl rfl rfl ht
theorem d187_12 : decode cX12_isLetter 12 = .ok (.iload_n 1, 1) := by decide +kernel
theorem s187_12 {d : Nat} {st : List Value} {σ : am_I} {ρ : am_R} {g : am_J} {τ : am_T} {Q : am_Q} {x0 : Value} {v : Int32} : AW d 187 12 [x0, .int v] (st) σ ρ g τ Q = AW d 187 13 [x0, .int v] (.int v :: st) σ ρ g τ Q := aw_lc m187 d187_12 rfl rfl rfl
theorem d187_13 : decode cX12_isLetter 13 = .ok (.iaload, 1) := by decide +kernel
theorem s187_13 {d : Nat} {st : List Value} {σ : am_I} {ρ : am_R} {g : am_J} {τ : am_T} {Q : am_Q} {x0 x1 : Value} {a : Nat} {j : Int32} (ht : τ.1 a = 15) (hj : am_inb j (τ.2.1 a) = true) : AW d 187 13 [x0, x1] (.int j :: .ref a :: st) σ ρ g τ Q = AW d 187 14 [x0, x1] (.int (σ a j.toNatClampNeg) :: st) σ ρ g τ Q := aw_ial m187 d187_13 rfl ht hj
theorem d187_14 : decode cX12_isLetter 14 = .ok (.bipush 97, 2) := by decide +kernel
theorem s187_14 {d : Nat} {st : List Value} {σ : am_I} {ρ : am_R} {g : am_J} {τ : am_T} {Q : am_Q} {x0 x1 : Value} : AW d 187 14 [x0, x1] (st) σ ρ g τ Q = AW d 187 16 [x0, x1] (.int 97 :: st) σ ρ g τ Q := aw_lc m187 d187_14 rfl rfl rfl
theorem d187_16 : decode cX12_isLetter 16 = .ok (.if_icmp .lt 18, 3) := by decide +kernel
theorem s187_16 {d : Nat} {st : List Value} {σ : am_I} {ρ : am_R} {g : am_J} {τ : am_T} {Q : am_Q} {x0 x1 : Value} {v w : Int32} : AW d 187 16 [x0, x1] (.int w :: .int v :: st) σ ρ g τ Q = if v < w then AW d 187 34 [x0, x1] (st) σ ρ g τ Q else AW d 187 19 [x0, x1] (st) σ ρ g τ Q := aw_br m187 d187_16 rfl rfl rfl
theorem d187_19 : decode cX12_isLetter 19 = .ok (.aload_n 0, 1) := by decide +kernel
theorem s187_19 {d : Nat} {st : List Value} {σ : am_I} {ρ : am_R} {g : am_J} {τ : am_T} {Q : am_Q} {x1 : Value} {v : Nat} : AW d 187 19 [.ref v, x1] (st) σ ρ g τ Q = AW d 187 20 [.ref v, x1] (.ref v :: st) σ ρ g τ Q := aw_lc m187 d187_19 rfl rfl rfl
theorem d187_20 : decode cX12_isLetter 20 = .ok (.getfield 138, 3) := by decide +kernel
theorem s187_20 {d : Nat} {st : List Value} {σ : am_I} {ρ : am_R} {g : am_J} {τ : am_T} {Q : am_Q} {x0 x1 : Value} {a : Nat} (ht : τ.1 a = 12) : AW d 187 20 [x0, x1] (.ref a :: st) σ ρ g τ Q = AW d 187 23 [x0, x1] (va_rf (ρ a 43) :: st) σ ρ g τ Q := aw_gr m187 d187_20 rfl rfl rfl ht
theorem d187_23 : decode cX12_isLetter 23 = .ok (.iload_n 1, 1) := by decide +kernel
theorem s187_23 {d : Nat} {st : List Value} {σ : am_I} {ρ : am_R} {g : am_J} {τ : am_T} {Q : am_Q} {x0 : Value} {v : Int32} : AW d 187 23 [x0, .int v] (st) σ ρ g τ Q = AW d 187 24 [x0, .int v] (.int v :: st) σ ρ g τ Q := aw_lc m187 d187_23 rfl rfl rfl
theorem d187_24 : decode cX12_isLetter 24 = .ok (.iaload, 1) := by decide +kernel
theorem s187_24 {d : Nat} {st : List Value} {σ : am_I} {ρ : am_R} {g : am_J} {τ : am_T} {Q : am_Q} {x0 x1 : Value} {a : Nat} {j : Int32} (ht : τ.1 a = 15) (hj : am_inb j (τ.2.1 a) = true) : AW d 187 24 [x0, x1] (.int j :: .ref a :: st) σ ρ g τ Q = AW d 187 25 [x0, x1] (.int (σ a j.toNatClampNeg) :: st) σ ρ g τ Q := aw_ial m187 d187_24 rfl ht hj
theorem d187_25 : decode cX12_isLetter 25 = .ok (.bipush 122, 2) := by decide +kernel
theorem s187_25 {d : Nat} {st : List Value} {σ : am_I} {ρ : am_R} {g : am_J} {τ : am_T} {Q : am_Q} {x0 x1 : Value} : AW d 187 25 [x0, x1] (st) σ ρ g τ Q = AW d 187 27 [x0, x1] (.int 122 :: st) σ ρ g τ Q := aw_lc m187 d187_25 rfl rfl rfl
theorem d187_27 : decode cX12_isLetter 27 = .ok (.if_icmp .gt 7, 3) := by decide +kernel
theorem s187_27 {d : Nat} {st : List Value} {σ : am_I} {ρ : am_R} {g : am_J} {τ : am_T} {Q : am_Q} {x0 x1 : Value} {v w : Int32} : AW d 187 27 [x0, x1] (.int w :: .int v :: st) σ ρ g τ Q = if w < v then AW d 187 34 [x0, x1] (st) σ ρ g τ Q else AW d 187 30 [x0, x1] (st) σ ρ g τ Q := aw_br m187 d187_27 rfl rfl rfl
theorem d187_30 : decode cX12_isLetter 30 = .ok (.iconst 1, 1) := by decide +kernel
theorem s187_30 {d : Nat} {st : List Value} {σ : am_I} {ρ : am_R} {g : am_J} {τ : am_T} {Q : am_Q} {x0 x1 : Value} : AW d 187 30 [x0, x1] (st) σ ρ g τ Q = AW d 187 31 [x0, x1] (.int 1 :: st) σ ρ g τ Q := aw_lc m187 d187_30 rfl rfl rfl
theorem d187_31 : decode cX12_isLetter 31 = .ok (.goto 4, 3) := by decide +kernel
theorem s187_31 {d : Nat} {st : List Value} {σ : am_I} {ρ : am_R} {g : am_J} {τ : am_T} {Q : am_Q} {x0 x1 : Value} : AW d 187 31 [x0, x1] (st) σ ρ g τ Q = AW d 187 35 [x0, x1] (st) σ ρ g τ Q := aw_lc m187 d187_31 rfl rfl rfl
theorem d187_34 : decode cX12_isLetter 34 = .ok (.iconst 0, 1) := by decide +kernel
theorem s187_34 {d : Nat} {st : List Value} {σ : am_I} {ρ : am_R} {g : am_J} {τ : am_T} {Q : am_Q} {x0 x1 : Value} : AW d 187 34 [x0, x1] (st) σ ρ g τ Q = AW d 187 35 [x0, x1] (.int 0 :: st) σ ρ g τ Q := aw_lc m187 d187_34 rfl rfl rfl
theorem d187_35 : decode cX12_isLetter 35 = .ok (.ireturn, 1) := by decide +kernel
theorem s187_35 {d : Nat} {σ : am_I} {ρ : am_R} {g : am_J} {τ : am_T} {Q : am_Q} {x0 x1 : Value} {v : Int32} (hv : am_b01 v = true) : AW d 187 35 [x0, x1] ([.int v]) σ ρ g τ Q = Q (some (.int v)) σ ρ g τ := aw_rz m187 d187_35 rfl hv
theorem d188_0 : decode cX12_isDigit 0 = .ok (.iload_n 1, 1) := by decide +kernel
theorem s188_0 {d : Nat} {st : List Value} {σ : am_I} {ρ : am_R} {g : am_J} {τ : am_T} {Q : am_Q} {x0 : Value} {v : Int32} : AW d 188 0 [x0, .int v] (st) σ ρ g τ Q = AW d 188 1 [x0, .int v] (.int v :: st) σ ρ g τ Q := aw_lc m188 d188_0 rfl rfl rfl
theorem d188_1 : decode cX12_isDigit 1 = .ok (.aload_n 0, 1) := by decide +kernel
theorem s188_1 {d : Nat} {st : List Value} {σ : am_I} {ρ : am_R} {g : am_J} {τ : am_T} {Q : am_Q} {x1 : Value} {v : Nat} : AW d 188 1 [.ref v, x1] (st) σ ρ g τ Q = AW d 188 2 [.ref v, x1] (.ref v :: st) σ ρ g τ Q := aw_lc m188 d188_1 rfl rfl rfl
theorem d188_2 : decode cX12_isDigit 2 = .ok (.getfield 242, 3) := by decide +kernel
theorem s188_2 {d : Nat} {st : List Value} {σ : am_I} {ρ : am_R} {g : am_J} {τ : am_T} {Q : am_Q} {x0 x1 : Value} {a : Nat} (ht : τ.1 a = 12) : AW d 188 2 [x0, x1] (.ref a :: st) σ ρ g τ Q = AW d 188 5 [x0, x1] (.int (σ a 44) :: st) σ ρ g τ Q := aw_gi m188 d188_2 rfl rfl rfl ht
theorem d188_5 : decode cX12_isDigit 5 = .ok (.if_icmp .ge 29, 3) := by decide +kernel
theorem s188_5 {d : Nat} {st : List Value} {σ : am_I} {ρ : am_R} {g : am_J} {τ : am_T} {Q : am_Q} {x0 x1 : Value} {v w : Int32} : AW d 188 5 [x0, x1] (.int w :: .int v :: st) σ ρ g τ Q = if w ≤ v then AW d 188 34 [x0, x1] (st) σ ρ g τ Q else AW d 188 8 [x0, x1] (st) σ ρ g τ Q := aw_br m188 d188_5 rfl rfl rfl
theorem d188_8 : decode cX12_isDigit 8 = .ok (.aload_n 0, 1) := by decide +kernel
theorem s188_8 {d : Nat} {st : List Value} {σ : am_I} {ρ : am_R} {g : am_J} {τ : am_T} {Q : am_Q} {x1 : Value} {v : Nat} : AW d 188 8 [.ref v, x1] (st) σ ρ g τ Q = AW d 188 9 [.ref v, x1] (.ref v :: st) σ ρ g τ Q := aw_lc m188 d188_8 rfl rfl rfl
theorem d188_9 : decode cX12_isDigit 9 = .ok (.getfield 138, 3) := by decide +kernel
theorem s188_9 {d : Nat} {st : List Value} {σ : am_I} {ρ : am_R} {g : am_J} {τ : am_T} {Q : am_Q} {x0 x1 : Value} {a : Nat} (ht : τ.1 a = 12) : AW d 188 9 [x0, x1] (.ref a :: st) σ ρ g τ Q = AW d 188 12 [x0, x1] (va_rf (ρ a 43) :: st) σ ρ g τ Q := aw_gr m188 d188_9 rfl rfl rfl ht
theorem d188_12 : decode cX12_isDigit 12 = .ok (.iload_n 1, 1) := by decide +kernel
theorem s188_12 {d : Nat} {st : List Value} {σ : am_I} {ρ : am_R} {g : am_J} {τ : am_T} {Q : am_Q} {x0 : Value} {v : Int32} : AW d 188 12 [x0, .int v] (st) σ ρ g τ Q = AW d 188 13 [x0, .int v] (.int v :: st) σ ρ g τ Q := aw_lc m188 d188_12 rfl rfl rfl
theorem d188_13 : decode cX12_isDigit 13 = .ok (.iaload, 1) := by decide +kernel
theorem s188_13 {d : Nat} {st : List Value} {σ : am_I} {ρ : am_R} {g : am_J} {τ : am_T} {Q : am_Q} {x0 x1 : Value} {a : Nat} {j : Int32} (ht : τ.1 a = 15) (hj : am_inb j (τ.2.1 a) = true) : AW d 188 13 [x0, x1] (.int j :: .ref a :: st) σ ρ g τ Q = AW d 188 14 [x0, x1] (.int (σ a j.toNatClampNeg) :: st) σ ρ g τ Q := aw_ial m188 d188_13 rfl ht hj
theorem d188_14 : decode cX12_isDigit 14 = .ok (.bipush 48, 2) := by decide +kernel
theorem s188_14 {d : Nat} {st : List Value} {σ : am_I} {ρ : am_R} {g : am_J} {τ : am_T} {Q : am_Q} {x0 x1 : Value} : AW d 188 14 [x0, x1] (st) σ ρ g τ Q = AW d 188 16 [x0, x1] (.int 48 :: st) σ ρ g τ Q := aw_lc m188 d188_14 rfl rfl rfl
theorem d188_16 : decode cX12_isDigit 16 = .ok (.if_icmp .lt 18, 3) := by decide +kernel
theorem s188_16 {d : Nat} {st : List Value} {σ : am_I} {ρ : am_R} {g : am_J} {τ : am_T} {Q : am_Q} {x0 x1 : Value} {v w : Int32} : AW d 188 16 [x0, x1] (.int w :: .int v :: st) σ ρ g τ Q = if v < w then AW d 188 34 [x0, x1] (st) σ ρ g τ Q else AW d 188 19 [x0, x1] (st) σ ρ g τ Q := aw_br m188 d188_16 rfl rfl rfl
theorem d188_19 : decode cX12_isDigit 19 = .ok (.aload_n 0, 1) := by decide +kernel
theorem s188_19 {d : Nat} {st : List Value} {σ : am_I} {ρ : am_R} {g : am_J} {τ : am_T} {Q : am_Q} {x1 : Value} {v : Nat} : AW d 188 19 [.ref v, x1] (st) σ ρ g τ Q = AW d 188 20 [.ref v, x1] (.ref v :: st) σ ρ g τ Q := aw_lc m188 d188_19 rfl rfl rfl
theorem d188_20 : decode cX12_isDigit 20 = .ok (.getfield 138, 3) := by decide +kernel
theorem s188_20 {d : Nat} {st : List Value} {σ : am_I} {ρ : am_R} {g : am_J} {τ : am_T} {Q : am_Q} {x0 x1 : Value} {a : Nat} (ht : τ.1 a = 12) : AW d 188 20 [x0, x1] (.ref a :: st) σ ρ g τ Q = AW d 188 23 [x0, x1] (va_rf (ρ a 43) :: st) σ ρ g τ Q := aw_gr m188 d188_20 rfl rfl rfl ht
theorem d188_23 : decode cX12_isDigit 23 = .ok (.iload_n 1, 1) := by decide +kernel
theorem s188_23 {d : Nat} {st : List Value} {σ : am_I} {ρ : am_R} {g : am_J} {τ : am_T} {Q : am_Q} {x0 : Value} {v : Int32} : AW d 188 23 [x0, .int v] (st) σ ρ g τ Q = AW d 188 24 [x0, .int v] (.int v :: st) σ ρ g τ Q := aw_lc m188 d188_23 rfl rfl rfl
theorem d188_24 : decode cX12_isDigit 24 = .ok (.iaload, 1) := by decide +kernel
theorem s188_24 {d : Nat} {st : List Value} {σ : am_I} {ρ : am_R} {g : am_J} {τ : am_T} {Q : am_Q} {x0 x1 : Value} {a : Nat} {j : Int32} (ht : τ.1 a = 15) (hj : am_inb j (τ.2.1 a) = true) : AW d 188 24 [x0, x1] (.int j :: .ref a :: st) σ ρ g τ Q = AW d 188 25 [x0, x1] (.int (σ a j.toNatClampNeg) :: st) σ ρ g τ Q := aw_ial m188 d188_24 rfl ht hj
theorem d188_25 : decode cX12_isDigit 25 = .ok (.bipush 57, 2) := by decide +kernel
theorem s188_25 {d : Nat} {st : List Value} {σ : am_I} {ρ : am_R} {g : am_J} {τ : am_T} {Q : am_Q} {x0 x1 : Value} : AW d 188 25 [x0, x1] (st) σ ρ g τ Q = AW d 188 27 [x0, x1] (.int 57 :: st) σ ρ g τ Q := aw_lc m188 d188_25 rfl rfl rfl
theorem d188_27 : decode cX12_isDigit 27 = .ok (.if_icmp .gt 7, 3) := by decide +kernel
theorem s188_27 {d : Nat} {st : List Value} {σ : am_I} {ρ : am_R} {g : am_J} {τ : am_T} {Q : am_Q} {x0 x1 : Value} {v w : Int32} : AW d 188 27 [x0, x1] (.int w :: .int v :: st) σ ρ g τ Q = if w < v then AW d 188 34 [x0, x1] (st) σ ρ g τ Q else AW d 188 30 [x0, x1] (st) σ ρ g τ Q := aw_br m188 d188_27 rfl rfl rfl
theorem d188_30 : decode cX12_isDigit 30 = .ok (.iconst 1, 1) := by decide +kernel
theorem s188_30 {d : Nat} {st : List Value} {σ : am_I} {ρ : am_R} {g : am_J} {τ : am_T} {Q : am_Q} {x0 x1 : Value} : AW d 188 30 [x0, x1] (st) σ ρ g τ Q = AW d 188 31 [x0, x1] (.int 1 :: st) σ ρ g τ Q := aw_lc m188 d188_30 rfl rfl rfl
theorem d188_31 : decode cX12_isDigit 31 = .ok (.goto 4, 3) := by decide +kernel
theorem s188_31 {d : Nat} {st : List Value} {σ : am_I} {ρ : am_R} {g : am_J} {τ : am_T} {Q : am_Q} {x0 x1 : Value} : AW d 188 31 [x0, x1] (st) σ ρ g τ Q = AW d 188 35 [x0, x1] (st) σ ρ g τ Q := aw_lc m188 d188_31 rfl rfl rfl
theorem d188_34 : decode cX12_isDigit 34 = .ok (.iconst 0, 1) := by decide +kernel
theorem s188_34 {d : Nat} {st : List Value} {σ : am_I} {ρ : am_R} {g : am_J} {τ : am_T} {Q : am_Q} {x0 x1 : Value} : AW d 188 34 [x0, x1] (st) σ ρ g τ Q = AW d 188 35 [x0, x1] (.int 0 :: st) σ ρ g τ Q := aw_lc m188 d188_34 rfl rfl rfl
theorem d188_35 : decode cX12_isDigit 35 = .ok (.ireturn, 1) := by decide +kernel
theorem s188_35 {d : Nat} {σ : am_I} {ρ : am_R} {g : am_J} {τ : am_T} {Q : am_Q} {x0 x1 : Value} {v : Int32} (hv : am_b01 v = true) : AW d 188 35 [x0, x1] ([.int v]) σ ρ g τ Q = Q (some (.int v)) σ ρ g τ := aw_rz m188 d188_35 rfl hv
theorem d189_0 : decode cX12_takes 0 = .ok (.aload_n 0, 1) := by decide +kernel
theorem s189_0 {d : Nat} {st : List Value} {σ : am_I} {ρ : am_R} {g : am_J} {τ : am_T} {Q : am_Q} {x1 x2 : Value} {v : Nat} : AW d 189 0 [.ref v, x1, x2] (st) σ ρ g τ Q = AW d 189 1 [.ref v, x1, x2] (.ref v :: st) σ ρ g τ Q := aw_lc m189 d189_0 rfl rfl rfl
theorem d189_1 : decode cX12_takes 1 = .ok (.invokevirtual 248, 3) := by decide +kernel
theorem s189_1 {d : Nat} {st : List Value} {σ : am_I} {ρ : am_R} {g : am_J} {τ : am_T} {Q : am_Q} {x0 x1 x2 : Value} {p0 : Nat} (ht : τ.1 p0 = 12) (hs : st.length ≤ 4) : AW (d + 1) 189 1 [x0, x1, x2] (.ref p0 :: st) σ ρ g τ Q = AW d 185 0 [.ref p0] [] σ ρ g τ (fun r9 σ ρ g τ => AW (d + 1) 189 4 [x0, x1, x2] (r9.toList ++ st) σ ρ g τ Q) := aw_cv m189 d189_1 rfl m185 rfl rfl (by decide) en185 ok185 rfl ht hs
theorem d189_4 : decode cX12_takes 4 = .ok (.pop, 1) := by decide +kernel
theorem s189_4 {d : Nat} {st : List Value} {σ : am_I} {ρ : am_R} {g : am_J} {τ : am_T} {Q : am_Q} {x0 x1 x2 : Value} {v : Int32} : AW d 189 4 [x0, x1, x2] (.int v :: st) σ ρ g τ Q = AW d 189 5 [x0, x1, x2] (st) σ ρ g τ Q := aw_lc m189 d189_4 rfl rfl rfl
theorem d189_5 : decode cX12_takes 5 = .ok (.iconst 0, 1) := by decide +kernel
theorem s189_5 {d : Nat} {st : List Value} {σ : am_I} {ρ : am_R} {g : am_J} {τ : am_T} {Q : am_Q} {x0 x1 x2 : Value} : AW d 189 5 [x0, x1, x2] (st) σ ρ g τ Q = AW d 189 6 [x0, x1, x2] (.int 0 :: st) σ ρ g τ Q := aw_lc m189 d189_5 rfl rfl rfl
theorem d189_6 : decode cX12_takes 6 = .ok (.istore_n 2, 1) := by decide +kernel
theorem s189_6r {d : Nat} {st : List Value} {σ : am_I} {ρ : am_R} {g : am_J} {τ : am_T} {Q : am_Q} {x0 x2 : Value} {v : Int32} {u : Nat} : AW d 189 6 [x0, .ref u, x2] (.int v :: st) σ ρ g τ Q = AW d 189 7 [x0, .ref u, .int v] (st) σ ρ g τ Q := aw_lc m189 d189_6 rfl rfl rfl
theorem d189_7 : decode cX12_takes 7 = .ok (.iload_n 2, 1) := by decide +kernel
theorem s189_7 {d : Nat} {st : List Value} {σ : am_I} {ρ : am_R} {g : am_J} {τ : am_T} {Q : am_Q} {x0 x1 : Value} {v : Int32} : AW d 189 7 [x0, x1, .int v] (st) σ ρ g τ Q = AW d 189 8 [x0, x1, .int v] (.int v :: st) σ ρ g τ Q := aw_lc m189 d189_7 rfl rfl rfl
theorem d189_8 : decode cX12_takes 8 = .ok (.aload_n 1, 1) := by decide +kernel
theorem s189_8 {d : Nat} {st : List Value} {σ : am_I} {ρ : am_R} {g : am_J} {τ : am_T} {Q : am_Q} {x0 x2 : Value} {v : Nat} : AW d 189 8 [x0, .ref v, x2] (st) σ ρ g τ Q = AW d 189 9 [x0, .ref v, x2] (.ref v :: st) σ ρ g τ Q := aw_lc m189 d189_8 rfl rfl rfl
theorem d189_9 : decode cX12_takes 9 = .ok (.invokevirtual 252, 3) := by decide +kernel
theorem s189_9 {d : Nat} {st : List Value} {σ : am_I} {ρ : am_R} {g : am_J} {τ : am_T} {Q : am_Q} {x0 x1 x2 : Value} {p0 : Nat} (ht : τ.1 p0 = 13) (hs : st.length ≤ 4) : AW (d + 1) 189 9 [x0, x1, x2] (.ref p0 :: st) σ ρ g τ Q = AW d 269 0 [.ref p0] [] σ ρ g τ (fun r9 σ ρ g τ => AW (d + 1) 189 12 [x0, x1, x2] (r9.toList ++ st) σ ρ g τ Q) := aw_cv m189 d189_9 rfl m269 rfl rfl (by decide) en269 ok269 rfl ht hs
theorem d189_12 : decode cX12_takes 12 = .ok (.if_icmp .ge 41, 3) := by decide +kernel
theorem s189_12 {d : Nat} {st : List Value} {σ : am_I} {ρ : am_R} {g : am_J} {τ : am_T} {Q : am_Q} {x0 x1 x2 : Value} {v w : Int32} : AW d 189 12 [x0, x1, x2] (.int w :: .int v :: st) σ ρ g τ Q = if w ≤ v then AW d 189 53 [x0, x1, x2] (st) σ ρ g τ Q else AW d 189 15 [x0, x1, x2] (st) σ ρ g τ Q := aw_br m189 d189_12 rfl rfl rfl
theorem d189_15 : decode cX12_takes 15 = .ok (.aload_n 0, 1) := by decide +kernel
theorem s189_15 {d : Nat} {st : List Value} {σ : am_I} {ρ : am_R} {g : am_J} {τ : am_T} {Q : am_Q} {x1 x2 : Value} {v : Nat} : AW d 189 15 [.ref v, x1, x2] (st) σ ρ g τ Q = AW d 189 16 [.ref v, x1, x2] (.ref v :: st) σ ρ g τ Q := aw_lc m189 d189_15 rfl rfl rfl
theorem d189_16 : decode cX12_takes 16 = .ok (.getfield 238, 3) := by decide +kernel
theorem s189_16 {d : Nat} {st : List Value} {σ : am_I} {ρ : am_R} {g : am_J} {τ : am_T} {Q : am_Q} {x0 x1 x2 : Value} {a : Nat} (ht : τ.1 a = 12) : AW d 189 16 [x0, x1, x2] (.ref a :: st) σ ρ g τ Q = AW d 189 19 [x0, x1, x2] (.int (σ a 57) :: st) σ ρ g τ Q := aw_gi m189 d189_16 rfl rfl rfl ht
theorem d189_19 : decode cX12_takes 19 = .ok (.iload_n 2, 1) := by decide +kernel
theorem s189_19 {d : Nat} {st : List Value} {σ : am_I} {ρ : am_R} {g : am_J} {τ : am_T} {Q : am_Q} {x0 x1 : Value} {v : Int32} : AW d 189 19 [x0, x1, .int v] (st) σ ρ g τ Q = AW d 189 20 [x0, x1, .int v] (.int v :: st) σ ρ g τ Q := aw_lc m189 d189_19 rfl rfl rfl
theorem d189_20 : decode cX12_takes 20 = .ok (.iadd, 1) := by decide +kernel
theorem s189_20 {d : Nat} {st : List Value} {σ : am_I} {ρ : am_R} {g : am_J} {τ : am_T} {Q : am_Q} {x0 x1 x2 : Value} {v w : Int32} : AW d 189 20 [x0, x1, x2] (.int w :: .int v :: st) σ ρ g τ Q = AW d 189 21 [x0, x1, x2] (.int (v + w) :: st) σ ρ g τ Q := aw_lc m189 d189_20 rfl rfl rfl
theorem d189_21 : decode cX12_takes 21 = .ok (.aload_n 0, 1) := by decide +kernel
theorem s189_21 {d : Nat} {st : List Value} {σ : am_I} {ρ : am_R} {g : am_J} {τ : am_T} {Q : am_Q} {x1 x2 : Value} {v : Nat} : AW d 189 21 [.ref v, x1, x2] (st) σ ρ g τ Q = AW d 189 22 [.ref v, x1, x2] (.ref v :: st) σ ρ g τ Q := aw_lc m189 d189_21 rfl rfl rfl
theorem d189_22 : decode cX12_takes 22 = .ok (.getfield 242, 3) := by decide +kernel
theorem s189_22 {d : Nat} {st : List Value} {σ : am_I} {ρ : am_R} {g : am_J} {τ : am_T} {Q : am_Q} {x0 x1 x2 : Value} {a : Nat} (ht : τ.1 a = 12) : AW d 189 22 [x0, x1, x2] (.ref a :: st) σ ρ g τ Q = AW d 189 25 [x0, x1, x2] (.int (σ a 44) :: st) σ ρ g τ Q := aw_gi m189 d189_22 rfl rfl rfl ht
theorem d189_25 : decode cX12_takes 25 = .ok (.if_icmp .ge 28, 3) := by decide +kernel
theorem s189_25 {d : Nat} {st : List Value} {σ : am_I} {ρ : am_R} {g : am_J} {τ : am_T} {Q : am_Q} {x0 x1 x2 : Value} {v w : Int32} : AW d 189 25 [x0, x1, x2] (.int w :: .int v :: st) σ ρ g τ Q = if w ≤ v then AW d 189 53 [x0, x1, x2] (st) σ ρ g τ Q else AW d 189 28 [x0, x1, x2] (st) σ ρ g τ Q := aw_br m189 d189_25 rfl rfl rfl
theorem d189_28 : decode cX12_takes 28 = .ok (.aload_n 0, 1) := by decide +kernel
theorem s189_28 {d : Nat} {st : List Value} {σ : am_I} {ρ : am_R} {g : am_J} {τ : am_T} {Q : am_Q} {x1 x2 : Value} {v : Nat} : AW d 189 28 [.ref v, x1, x2] (st) σ ρ g τ Q = AW d 189 29 [.ref v, x1, x2] (.ref v :: st) σ ρ g τ Q := aw_lc m189 d189_28 rfl rfl rfl
theorem d189_29 : decode cX12_takes 29 = .ok (.getfield 138, 3) := by decide +kernel
theorem s189_29 {d : Nat} {st : List Value} {σ : am_I} {ρ : am_R} {g : am_J} {τ : am_T} {Q : am_Q} {x0 x1 x2 : Value} {a : Nat} (ht : τ.1 a = 12) : AW d 189 29 [x0, x1, x2] (.ref a :: st) σ ρ g τ Q = AW d 189 32 [x0, x1, x2] (va_rf (ρ a 43) :: st) σ ρ g τ Q := aw_gr m189 d189_29 rfl rfl rfl ht
theorem d189_32 : decode cX12_takes 32 = .ok (.aload_n 0, 1) := by decide +kernel
theorem s189_32 {d : Nat} {st : List Value} {σ : am_I} {ρ : am_R} {g : am_J} {τ : am_T} {Q : am_Q} {x1 x2 : Value} {v : Nat} : AW d 189 32 [.ref v, x1, x2] (st) σ ρ g τ Q = AW d 189 33 [.ref v, x1, x2] (.ref v :: st) σ ρ g τ Q := aw_lc m189 d189_32 rfl rfl rfl
theorem d189_33 : decode cX12_takes 33 = .ok (.getfield 238, 3) := by decide +kernel
theorem s189_33 {d : Nat} {st : List Value} {σ : am_I} {ρ : am_R} {g : am_J} {τ : am_T} {Q : am_Q} {x0 x1 x2 : Value} {a : Nat} (ht : τ.1 a = 12) : AW d 189 33 [x0, x1, x2] (.ref a :: st) σ ρ g τ Q = AW d 189 36 [x0, x1, x2] (.int (σ a 57) :: st) σ ρ g τ Q := aw_gi m189 d189_33 rfl rfl rfl ht
theorem d189_36 : decode cX12_takes 36 = .ok (.iload_n 2, 1) := by decide +kernel
theorem s189_36 {d : Nat} {st : List Value} {σ : am_I} {ρ : am_R} {g : am_J} {τ : am_T} {Q : am_Q} {x0 x1 : Value} {v : Int32} : AW d 189 36 [x0, x1, .int v] (st) σ ρ g τ Q = AW d 189 37 [x0, x1, .int v] (.int v :: st) σ ρ g τ Q := aw_lc m189 d189_36 rfl rfl rfl
theorem d189_37 : decode cX12_takes 37 = .ok (.iadd, 1) := by decide +kernel
theorem s189_37 {d : Nat} {st : List Value} {σ : am_I} {ρ : am_R} {g : am_J} {τ : am_T} {Q : am_Q} {x0 x1 x2 : Value} {v w : Int32} : AW d 189 37 [x0, x1, x2] (.int w :: .int v :: st) σ ρ g τ Q = AW d 189 38 [x0, x1, x2] (.int (v + w) :: st) σ ρ g τ Q := aw_lc m189 d189_37 rfl rfl rfl
theorem d189_38 : decode cX12_takes 38 = .ok (.iaload, 1) := by decide +kernel
theorem s189_38 {d : Nat} {st : List Value} {σ : am_I} {ρ : am_R} {g : am_J} {τ : am_T} {Q : am_Q} {x0 x1 x2 : Value} {a : Nat} {j : Int32} (ht : τ.1 a = 15) (hj : am_inb j (τ.2.1 a) = true) : AW d 189 38 [x0, x1, x2] (.int j :: .ref a :: st) σ ρ g τ Q = AW d 189 39 [x0, x1, x2] (.int (σ a j.toNatClampNeg) :: st) σ ρ g τ Q := aw_ial m189 d189_38 rfl ht hj
theorem d189_39 : decode cX12_takes 39 = .ok (.aload_n 1, 1) := by decide +kernel
theorem s189_39 {d : Nat} {st : List Value} {σ : am_I} {ρ : am_R} {g : am_J} {τ : am_T} {Q : am_Q} {x0 x2 : Value} {v : Nat} : AW d 189 39 [x0, .ref v, x2] (st) σ ρ g τ Q = AW d 189 40 [x0, .ref v, x2] (.ref v :: st) σ ρ g τ Q := aw_lc m189 d189_39 rfl rfl rfl
theorem d189_40 : decode cX12_takes 40 = .ok (.iload_n 2, 1) := by decide +kernel
theorem s189_40 {d : Nat} {st : List Value} {σ : am_I} {ρ : am_R} {g : am_J} {τ : am_T} {Q : am_Q} {x0 x1 : Value} {v : Int32} : AW d 189 40 [x0, x1, .int v] (st) σ ρ g τ Q = AW d 189 41 [x0, x1, .int v] (.int v :: st) σ ρ g τ Q := aw_lc m189 d189_40 rfl rfl rfl
theorem d189_41 : decode cX12_takes 41 = .ok (.invokevirtual 257, 3) := by decide +kernel
theorem s189_41 {d : Nat} {st : List Value} {σ : am_I} {ρ : am_R} {g : am_J} {τ : am_T} {Q : am_Q} {x0 x1 x2 : Value} {p0 : Nat} {p1 : Int32} (ht : τ.1 p0 = 13) (hs : st.length ≤ 4) : AW (d + 1) 189 41 [x0, x1, x2] (.int p1 :: .ref p0 :: st) σ ρ g τ Q = AW d 270 0 [.ref p0, .int p1] [] σ ρ g τ (fun r9 σ ρ g τ => AW (d + 1) 189 44 [x0, x1, x2] (r9.toList ++ st) σ ρ g τ Q) := aw_cv m189 d189_41 rfl m270 rfl rfl (by decide) en270 ok270 rfl ht hs
theorem d189_44 : decode cX12_takes 44 = .ok (.if_icmp .ne 9, 3) := by decide +kernel
theorem s189_44 {d : Nat} {st : List Value} {σ : am_I} {ρ : am_R} {g : am_J} {τ : am_T} {Q : am_Q} {x0 x1 x2 : Value} {v w : Int32} : AW d 189 44 [x0, x1, x2] (.int w :: .int v :: st) σ ρ g τ Q = if ¬ v = w then AW d 189 53 [x0, x1, x2] (st) σ ρ g τ Q else AW d 189 47 [x0, x1, x2] (st) σ ρ g τ Q := aw_br m189 d189_44 rfl rfl rfl
theorem d189_47 : decode cX12_takes 47 = .ok (.iinc 2 1, 3) := by decide +kernel
theorem s189_47r {d : Nat} {st : List Value} {σ : am_I} {ρ : am_R} {g : am_J} {τ : am_T} {Q : am_Q} {x0 : Value} {v : Int32} {u : Nat} : AW d 189 47 [x0, .ref u, .int v] (st) σ ρ g τ Q = AW d 189 50 [x0, .ref u, .int (v + 1)] (st) σ ρ g τ Q := aw_lc m189 d189_47 rfl rfl rfl
theorem d189_50 : decode cX12_takes 50 = .ok (.goto (-43), 3) := by decide +kernel
theorem s189_50 {d : Nat} {st : List Value} {σ : am_I} {ρ : am_R} {g : am_J} {τ : am_T} {Q : am_Q} {x0 x1 x2 : Value} : AW d 189 50 [x0, x1, x2] (st) σ ρ g τ Q = AW d 189 7 [x0, x1, x2] (st) σ ρ g τ Q := aw_lc m189 d189_50 rfl rfl rfl
theorem d189_53 : decode cX12_takes 53 = .ok (.iload_n 2, 1) := by decide +kernel
theorem s189_53 {d : Nat} {st : List Value} {σ : am_I} {ρ : am_R} {g : am_J} {τ : am_T} {Q : am_Q} {x0 x1 : Value} {v : Int32} : AW d 189 53 [x0, x1, .int v] (st) σ ρ g τ Q = AW d 189 54 [x0, x1, .int v] (.int v :: st) σ ρ g τ Q := aw_lc m189 d189_53 rfl rfl rfl
theorem d189_54 : decode cX12_takes 54 = .ok (.aload_n 1, 1) := by decide +kernel
theorem s189_54 {d : Nat} {st : List Value} {σ : am_I} {ρ : am_R} {g : am_J} {τ : am_T} {Q : am_Q} {x0 x2 : Value} {v : Nat} : AW d 189 54 [x0, .ref v, x2] (st) σ ρ g τ Q = AW d 189 55 [x0, .ref v, x2] (.ref v :: st) σ ρ g τ Q := aw_lc m189 d189_54 rfl rfl rfl
theorem d189_55 : decode cX12_takes 55 = .ok (.invokevirtual 252, 3) := by decide +kernel
theorem s189_55 {d : Nat} {st : List Value} {σ : am_I} {ρ : am_R} {g : am_J} {τ : am_T} {Q : am_Q} {x0 x1 x2 : Value} {p0 : Nat} (ht : τ.1 p0 = 13) (hs : st.length ≤ 4) : AW (d + 1) 189 55 [x0, x1, x2] (.ref p0 :: st) σ ρ g τ Q = AW d 269 0 [.ref p0] [] σ ρ g τ (fun r9 σ ρ g τ => AW (d + 1) 189 58 [x0, x1, x2] (r9.toList ++ st) σ ρ g τ Q) := aw_cv m189 d189_55 rfl m269 rfl rfl (by decide) en269 ok269 rfl ht hs
theorem d189_58 : decode cX12_takes 58 = .ok (.if_icmp .lt 16, 3) := by decide +kernel
theorem s189_58 {d : Nat} {st : List Value} {σ : am_I} {ρ : am_R} {g : am_J} {τ : am_T} {Q : am_Q} {x0 x1 x2 : Value} {v w : Int32} : AW d 189 58 [x0, x1, x2] (.int w :: .int v :: st) σ ρ g τ Q = if v < w then AW d 189 74 [x0, x1, x2] (st) σ ρ g τ Q else AW d 189 61 [x0, x1, x2] (st) σ ρ g τ Q := aw_br m189 d189_58 rfl rfl rfl
theorem d189_61 : decode cX12_takes 61 = .ok (.aload_n 0, 1) := by decide +kernel
theorem s189_61 {d : Nat} {st : List Value} {σ : am_I} {ρ : am_R} {g : am_J} {τ : am_T} {Q : am_Q} {x1 x2 : Value} {v : Nat} : AW d 189 61 [.ref v, x1, x2] (st) σ ρ g τ Q = AW d 189 62 [.ref v, x1, x2] (.ref v :: st) σ ρ g τ Q := aw_lc m189 d189_61 rfl rfl rfl
theorem d189_62 : decode cX12_takes 62 = .ok (.aload_n 0, 1) := by decide +kernel
theorem s189_62 {d : Nat} {st : List Value} {σ : am_I} {ρ : am_R} {g : am_J} {τ : am_T} {Q : am_Q} {x1 x2 : Value} {v : Nat} : AW d 189 62 [.ref v, x1, x2] (st) σ ρ g τ Q = AW d 189 63 [.ref v, x1, x2] (.ref v :: st) σ ρ g τ Q := aw_lc m189 d189_62 rfl rfl rfl
theorem d189_63 : decode cX12_takes 63 = .ok (.getfield 238, 3) := by decide +kernel
theorem s189_63 {d : Nat} {st : List Value} {σ : am_I} {ρ : am_R} {g : am_J} {τ : am_T} {Q : am_Q} {x0 x1 x2 : Value} {a : Nat} (ht : τ.1 a = 12) : AW d 189 63 [x0, x1, x2] (.ref a :: st) σ ρ g τ Q = AW d 189 66 [x0, x1, x2] (.int (σ a 57) :: st) σ ρ g τ Q := aw_gi m189 d189_63 rfl rfl rfl ht
theorem d189_66 : decode cX12_takes 66 = .ok (.iload_n 2, 1) := by decide +kernel
theorem s189_66 {d : Nat} {st : List Value} {σ : am_I} {ρ : am_R} {g : am_J} {τ : am_T} {Q : am_Q} {x0 x1 : Value} {v : Int32} : AW d 189 66 [x0, x1, .int v] (st) σ ρ g τ Q = AW d 189 67 [x0, x1, .int v] (.int v :: st) σ ρ g τ Q := aw_lc m189 d189_66 rfl rfl rfl
theorem d189_67 : decode cX12_takes 67 = .ok (.iadd, 1) := by decide +kernel
theorem s189_67 {d : Nat} {st : List Value} {σ : am_I} {ρ : am_R} {g : am_J} {τ : am_T} {Q : am_Q} {x0 x1 x2 : Value} {v w : Int32} : AW d 189 67 [x0, x1, x2] (.int w :: .int v :: st) σ ρ g τ Q = AW d 189 68 [x0, x1, x2] (.int (v + w) :: st) σ ρ g τ Q := aw_lc m189 d189_67 rfl rfl rfl
theorem d189_68 : decode cX12_takes 68 = .ok (.invokevirtual 261, 3) := by decide +kernel
theorem s189_68 {d : Nat} {st : List Value} {σ : am_I} {ρ : am_R} {g : am_J} {τ : am_T} {Q : am_Q} {x0 x1 x2 : Value} {p0 : Nat} {p1 : Int32} (ht : τ.1 p0 = 12) (hs : st.length ≤ 4) : AW (d + 1) 189 68 [x0, x1, x2] (.int p1 :: .ref p0 :: st) σ ρ g τ Q = AW d 187 0 [.ref p0, .int p1] [] σ ρ g τ (fun r9 σ ρ g τ => AW (d + 1) 189 71 [x0, x1, x2] (r9.toList ++ st) σ ρ g τ Q) := aw_cv m189 d189_68 rfl m187 rfl rfl (by decide) en187 ok187 rfl ht hs
theorem d189_71 : decode cX12_takes 71 = .ok (.ifCond .eq 5, 3) := by decide +kernel
theorem s189_71 {d : Nat} {st : List Value} {σ : am_I} {ρ : am_R} {g : am_J} {τ : am_T} {Q : am_Q} {x0 x1 x2 : Value} {v : Int32} : AW d 189 71 [x0, x1, x2] (.int v :: st) σ ρ g τ Q = if v = 0 then AW d 189 76 [x0, x1, x2] (st) σ ρ g τ Q else AW d 189 74 [x0, x1, x2] (st) σ ρ g τ Q := aw_br m189 d189_71 rfl rfl rfl
theorem d189_74 : decode cX12_takes 74 = .ok (.iconst 0, 1) := by decide +kernel
theorem s189_74 {d : Nat} {st : List Value} {σ : am_I} {ρ : am_R} {g : am_J} {τ : am_T} {Q : am_Q} {x0 x1 x2 : Value} : AW d 189 74 [x0, x1, x2] (st) σ ρ g τ Q = AW d 189 75 [x0, x1, x2] (.int 0 :: st) σ ρ g τ Q := aw_lc m189 d189_74 rfl rfl rfl
theorem d189_75 : decode cX12_takes 75 = .ok (.ireturn, 1) := by decide +kernel
theorem s189_75 {d : Nat} {σ : am_I} {ρ : am_R} {g : am_J} {τ : am_T} {Q : am_Q} {x0 x1 x2 : Value} {v : Int32} (hv : am_b01 v = true) : AW d 189 75 [x0, x1, x2] ([.int v]) σ ρ g τ Q = Q (some (.int v)) σ ρ g τ := aw_rz m189 d189_75 rfl hv
theorem d189_76 : decode cX12_takes 76 = .ok (.aload_n 0, 1) := by decide +kernel
theorem s189_76 {d : Nat} {st : List Value} {σ : am_I} {ρ : am_R} {g : am_J} {τ : am_T} {Q : am_Q} {x1 x2 : Value} {v : Nat} : AW d 189 76 [.ref v, x1, x2] (st) σ ρ g τ Q = AW d 189 77 [.ref v, x1, x2] (.ref v :: st) σ ρ g τ Q := aw_lc m189 d189_76 rfl rfl rfl
theorem d189_77 : decode cX12_takes 77 = .ok (.dup, 1) := by decide +kernel
theorem s189_77 {d : Nat} {st : List Value} {σ : am_I} {ρ : am_R} {g : am_J} {τ : am_T} {Q : am_Q} {x0 x1 x2 : Value} {v : Int32} : AW d 189 77 [x0, x1, x2] (.int v :: st) σ ρ g τ Q = AW d 189 78 [x0, x1, x2] (.int v :: .int v :: st) σ ρ g τ Q := aw_lc m189 d189_77 rfl rfl rfl
theorem s189_77r {d : Nat} {st : List Value} {σ : am_I} {ρ : am_R} {g : am_J} {τ : am_T} {Q : am_Q} {x0 x1 x2 : Value} {v : Nat} : AW d 189 77 [x0, x1, x2] (.ref v :: st) σ ρ g τ Q = AW d 189 78 [x0, x1, x2] (.ref v :: .ref v :: st) σ ρ g τ Q := aw_lc m189 d189_77 rfl rfl rfl
theorem d189_78 : decode cX12_takes 78 = .ok (.getfield 238, 3) := by decide +kernel
theorem s189_78 {d : Nat} {st : List Value} {σ : am_I} {ρ : am_R} {g : am_J} {τ : am_T} {Q : am_Q} {x0 x1 x2 : Value} {a : Nat} (ht : τ.1 a = 12) : AW d 189 78 [x0, x1, x2] (.ref a :: st) σ ρ g τ Q = AW d 189 81 [x0, x1, x2] (.int (σ a 57) :: st) σ ρ g τ Q := aw_gi m189 d189_78 rfl rfl rfl ht
theorem d189_81 : decode cX12_takes 81 = .ok (.iload_n 2, 1) := by decide +kernel
theorem s189_81 {d : Nat} {st : List Value} {σ : am_I} {ρ : am_R} {g : am_J} {τ : am_T} {Q : am_Q} {x0 x1 : Value} {v : Int32} : AW d 189 81 [x0, x1, .int v] (st) σ ρ g τ Q = AW d 189 82 [x0, x1, .int v] (.int v :: st) σ ρ g τ Q := aw_lc m189 d189_81 rfl rfl rfl
theorem d189_82 : decode cX12_takes 82 = .ok (.iadd, 1) := by decide +kernel
theorem s189_82 {d : Nat} {st : List Value} {σ : am_I} {ρ : am_R} {g : am_J} {τ : am_T} {Q : am_Q} {x0 x1 x2 : Value} {v w : Int32} : AW d 189 82 [x0, x1, x2] (.int w :: .int v :: st) σ ρ g τ Q = AW d 189 83 [x0, x1, x2] (.int (v + w) :: st) σ ρ g τ Q := aw_lc m189 d189_82 rfl rfl rfl
theorem d189_83 : decode cX12_takes 83 = .ok (.putfield 238, 3) := by decide +kernel
theorem s189_83 {d : Nat} {st : List Value} {σ : am_I} {ρ : am_R} {g : am_J} {τ : am_T} {Q : am_Q} {x0 x1 x2 : Value} {a : Nat} {v : Int32} (ht : τ.1 a = 12) : AW d 189 83 [x0, x1, x2] (.int v :: .ref a :: st) σ ρ g τ Q = AW d 189 86 [x0, x1, x2] (st) (am_u σ a 57 v) ρ g τ Q := aw_pi m189 d189_83 rfl rfl (Or.inl rfl) rfl ht
theorem d189_86 : decode cX12_takes 86 = .ok (.iconst 1, 1) := by decide +kernel
theorem s189_86 {d : Nat} {st : List Value} {σ : am_I} {ρ : am_R} {g : am_J} {τ : am_T} {Q : am_Q} {x0 x1 x2 : Value} : AW d 189 86 [x0, x1, x2] (st) σ ρ g τ Q = AW d 189 87 [x0, x1, x2] (.int 1 :: st) σ ρ g τ Q := aw_lc m189 d189_86 rfl rfl rfl
theorem d189_87 : decode cX12_takes 87 = .ok (.ireturn, 1) := by decide +kernel
theorem s189_87 {d : Nat} {σ : am_I} {ρ : am_R} {g : am_J} {τ : am_T} {Q : am_Q} {x0 x1 x2 : Value} {v : Int32} (hv : am_b01 v = true) : AW d 189 87 [x0, x1, x2] ([.int v]) σ ρ g τ Q = Q (some (.int v)) σ ρ g τ := aw_rz m189 d189_87 rfl hv
theorem d190_0 : decode cX12_takes_ 0 = .ok (.aload_n 0, 1) := by decide +kernel
theorem s190_0 {d : Nat} {st : List Value} {σ : am_I} {ρ : am_R} {g : am_J} {τ : am_T} {Q : am_Q} {x1 : Value} {v : Nat} : AW d 190 0 [.ref v, x1] (st) σ ρ g τ Q = AW d 190 1 [.ref v, x1] (.ref v :: st) σ ρ g τ Q := aw_lc m190 d190_0 rfl rfl rfl
theorem d190_1 : decode cX12_takes_ 1 = .ok (.invokevirtual 248, 3) := by decide +kernel
theorem s190_1 {d : Nat} {st : List Value} {σ : am_I} {ρ : am_R} {g : am_J} {τ : am_T} {Q : am_Q} {x0 x1 : Value} {p0 : Nat} (ht : τ.1 p0 = 12) (hs : st.length ≤ 4) : AW (d + 1) 190 1 [x0, x1] (.ref p0 :: st) σ ρ g τ Q = AW d 185 0 [.ref p0] [] σ ρ g τ (fun r9 σ ρ g τ => AW (d + 1) 190 4 [x0, x1] (r9.toList ++ st) σ ρ g τ Q) := aw_cv m190 d190_1 rfl m185 rfl rfl (by decide) en185 ok185 rfl ht hs
theorem d190_4 : decode cX12_takes_ 4 = .ok (.iload_n 1, 1) := by decide +kernel
theorem s190_4 {d : Nat} {st : List Value} {σ : am_I} {ρ : am_R} {g : am_J} {τ : am_T} {Q : am_Q} {x0 : Value} {v : Int32} : AW d 190 4 [x0, .int v] (st) σ ρ g τ Q = AW d 190 5 [x0, .int v] (.int v :: st) σ ρ g τ Q := aw_lc m190 d190_4 rfl rfl rfl
theorem d190_5 : decode cX12_takes_ 5 = .ok (.if_icmp .eq 5, 3) := by decide +kernel
theorem s190_5 {d : Nat} {st : List Value} {σ : am_I} {ρ : am_R} {g : am_J} {τ : am_T} {Q : am_Q} {x0 x1 : Value} {v w : Int32} : AW d 190 5 [x0, x1] (.int w :: .int v :: st) σ ρ g τ Q = if v = w then AW d 190 10 [x0, x1] (st) σ ρ g τ Q else AW d 190 8 [x0, x1] (st) σ ρ g τ Q := aw_br m190 d190_5 rfl rfl rfl
theorem d190_8 : decode cX12_takes_ 8 = .ok (.iconst 0, 1) := by decide +kernel
theorem s190_8 {d : Nat} {st : List Value} {σ : am_I} {ρ : am_R} {g : am_J} {τ : am_T} {Q : am_Q} {x0 x1 : Value} : AW d 190 8 [x0, x1] (st) σ ρ g τ Q = AW d 190 9 [x0, x1] (.int 0 :: st) σ ρ g τ Q := aw_lc m190 d190_8 rfl rfl rfl
theorem d190_9 : decode cX12_takes_ 9 = .ok (.ireturn, 1) := by decide +kernel
theorem s190_9 {d : Nat} {σ : am_I} {ρ : am_R} {g : am_J} {τ : am_T} {Q : am_Q} {x0 x1 : Value} {v : Int32} (hv : am_b01 v = true) : AW d 190 9 [x0, x1] ([.int v]) σ ρ g τ Q = Q (some (.int v)) σ ρ g τ := aw_rz m190 d190_9 rfl hv
theorem d190_10 : decode cX12_takes_ 10 = .ok (.aload_n 0, 1) := by decide +kernel
theorem s190_10 {d : Nat} {st : List Value} {σ : am_I} {ρ : am_R} {g : am_J} {τ : am_T} {Q : am_Q} {x1 : Value} {v : Nat} : AW d 190 10 [.ref v, x1] (st) σ ρ g τ Q = AW d 190 11 [.ref v, x1] (.ref v :: st) σ ρ g τ Q := aw_lc m190 d190_10 rfl rfl rfl
theorem d190_11 : decode cX12_takes_ 11 = .ok (.dup, 1) := by decide +kernel
theorem s190_11 {d : Nat} {st : List Value} {σ : am_I} {ρ : am_R} {g : am_J} {τ : am_T} {Q : am_Q} {x0 x1 : Value} {v : Int32} : AW d 190 11 [x0, x1] (.int v :: st) σ ρ g τ Q = AW d 190 12 [x0, x1] (.int v :: .int v :: st) σ ρ g τ Q := aw_lc m190 d190_11 rfl rfl rfl
theorem s190_11r {d : Nat} {st : List Value} {σ : am_I} {ρ : am_R} {g : am_J} {τ : am_T} {Q : am_Q} {x0 x1 : Value} {v : Nat} : AW d 190 11 [x0, x1] (.ref v :: st) σ ρ g τ Q = AW d 190 12 [x0, x1] (.ref v :: .ref v :: st) σ ρ g τ Q := aw_lc m190 d190_11 rfl rfl rfl
theorem d190_12 : decode cX12_takes_ 12 = .ok (.getfield 238, 3) := by decide +kernel
theorem s190_12 {d : Nat} {st : List Value} {σ : am_I} {ρ : am_R} {g : am_J} {τ : am_T} {Q : am_Q} {x0 x1 : Value} {a : Nat} (ht : τ.1 a = 12) : AW d 190 12 [x0, x1] (.ref a :: st) σ ρ g τ Q = AW d 190 15 [x0, x1] (.int (σ a 57) :: st) σ ρ g τ Q := aw_gi m190 d190_12 rfl rfl rfl ht
theorem d190_15 : decode cX12_takes_ 15 = .ok (.iconst 1, 1) := by decide +kernel
theorem s190_15 {d : Nat} {st : List Value} {σ : am_I} {ρ : am_R} {g : am_J} {τ : am_T} {Q : am_Q} {x0 x1 : Value} : AW d 190 15 [x0, x1] (st) σ ρ g τ Q = AW d 190 16 [x0, x1] (.int 1 :: st) σ ρ g τ Q := aw_lc m190 d190_15 rfl rfl rfl
theorem d190_16 : decode cX12_takes_ 16 = .ok (.iadd, 1) := by decide +kernel
theorem s190_16 {d : Nat} {st : List Value} {σ : am_I} {ρ : am_R} {g : am_J} {τ : am_T} {Q : am_Q} {x0 x1 : Value} {v w : Int32} : AW d 190 16 [x0, x1] (.int w :: .int v :: st) σ ρ g τ Q = AW d 190 17 [x0, x1] (.int (v + w) :: st) σ ρ g τ Q := aw_lc m190 d190_16 rfl rfl rfl
theorem d190_17 : decode cX12_takes_ 17 = .ok (.putfield 238, 3) := by decide +kernel
theorem s190_17 {d : Nat} {st : List Value} {σ : am_I} {ρ : am_R} {g : am_J} {τ : am_T} {Q : am_Q} {x0 x1 : Value} {a : Nat} {v : Int32} (ht : τ.1 a = 12) : AW d 190 17 [x0, x1] (.int v :: .ref a :: st) σ ρ g τ Q = AW d 190 20 [x0, x1] (st) (am_u σ a 57 v) ρ g τ Q := aw_pi m190 d190_17 rfl rfl (Or.inl rfl) rfl ht
theorem d190_20 : decode cX12_takes_ 20 = .ok (.iconst 1, 1) := by decide +kernel
theorem s190_20 {d : Nat} {st : List Value} {σ : am_I} {ρ : am_R} {g : am_J} {τ : am_T} {Q : am_Q} {x0 x1 : Value} : AW d 190 20 [x0, x1] (st) σ ρ g τ Q = AW d 190 21 [x0, x1] (.int 1 :: st) σ ρ g τ Q := aw_lc m190 d190_20 rfl rfl rfl
theorem d190_21 : decode cX12_takes_ 21 = .ok (.ireturn, 1) := by decide +kernel
theorem s190_21 {d : Nat} {σ : am_I} {ρ : am_R} {g : am_J} {τ : am_T} {Q : am_Q} {x0 x1 : Value} {v : Int32} (hv : am_b01 v = true) : AW d 190 21 [x0, x1] ([.int v]) σ ρ g τ Q = Q (some (.int v)) σ ρ g τ := aw_rz m190 d190_21 rfl hv
theorem d191_0 : decode cX12_number 0 = .ok (.aload_n 0, 1) := by decide +kernel
theorem s191_0 {d : Nat} {st : List Value} {σ : am_I} {ρ : am_R} {g : am_J} {τ : am_T} {Q : am_Q} {x1 x2 x3 : Value} {v : Nat} : AW d 191 0 [.ref v, x1, x2, x3] (st) σ ρ g τ Q = AW d 191 1 [.ref v, x1, x2, x3] (.ref v :: st) σ ρ g τ Q := aw_lc m191 d191_0 rfl rfl rfl
theorem d191_1 : decode cX12_number 1 = .ok (.invokevirtual 248, 3) := by decide +kernel
theorem s191_1 {d : Nat} {st : List Value} {σ : am_I} {ρ : am_R} {g : am_J} {τ : am_T} {Q : am_Q} {x0 x1 x2 x3 : Value} {p0 : Nat} (ht : τ.1 p0 = 12) (hs : st.length ≤ 4) : AW (d + 1) 191 1 [x0, x1, x2, x3] (.ref p0 :: st) σ ρ g τ Q = AW d 185 0 [.ref p0] [] σ ρ g τ (fun r9 σ ρ g τ => AW (d + 1) 191 4 [x0, x1, x2, x3] (r9.toList ++ st) σ ρ g τ Q) := aw_cv m191 d191_1 rfl m185 rfl rfl (by decide) en185 ok185 rfl ht hs
theorem d191_4 : decode cX12_number 4 = .ok (.pop, 1) := by decide +kernel
theorem s191_4 {d : Nat} {st : List Value} {σ : am_I} {ρ : am_R} {g : am_J} {τ : am_T} {Q : am_Q} {x0 x1 x2 x3 : Value} {v : Int32} : AW d 191 4 [x0, x1, x2, x3] (.int v :: st) σ ρ g τ Q = AW d 191 5 [x0, x1, x2, x3] (st) σ ρ g τ Q := aw_lc m191 d191_4 rfl rfl rfl
theorem d191_5 : decode cX12_number 5 = .ok (.aload_n 0, 1) := by decide +kernel
theorem s191_5 {d : Nat} {st : List Value} {σ : am_I} {ρ : am_R} {g : am_J} {τ : am_T} {Q : am_Q} {x1 x2 x3 : Value} {v : Nat} : AW d 191 5 [.ref v, x1, x2, x3] (st) σ ρ g τ Q = AW d 191 6 [.ref v, x1, x2, x3] (.ref v :: st) σ ρ g τ Q := aw_lc m191 d191_5 rfl rfl rfl
theorem d191_6 : decode cX12_number 6 = .ok (.getfield 238, 3) := by decide +kernel
theorem s191_6 {d : Nat} {st : List Value} {σ : am_I} {ρ : am_R} {g : am_J} {τ : am_T} {Q : am_Q} {x0 x1 x2 x3 : Value} {a : Nat} (ht : τ.1 a = 12) : AW d 191 6 [x0, x1, x2, x3] (.ref a :: st) σ ρ g τ Q = AW d 191 9 [x0, x1, x2, x3] (.int (σ a 57) :: st) σ ρ g τ Q := aw_gi m191 d191_6 rfl rfl rfl ht
theorem d191_9 : decode cX12_number 9 = .ok (.istore_n 2, 1) := by decide +kernel
theorem s191_9 {d : Nat} {st : List Value} {σ : am_I} {ρ : am_R} {g : am_J} {τ : am_T} {Q : am_Q} {x0 x2 x3 : Value} {v : Int32} {u : Int32} : AW d 191 9 [x0, .int u, x2, x3] (.int v :: st) σ ρ g τ Q = AW d 191 10 [x0, .int u, .int v, x3] (st) σ ρ g τ Q := aw_lc m191 d191_9 rfl rfl rfl
theorem d191_10 : decode cX12_number 10 = .ok (.iconst 0, 1) := by decide +kernel
theorem s191_10 {d : Nat} {st : List Value} {σ : am_I} {ρ : am_R} {g : am_J} {τ : am_T} {Q : am_Q} {x0 x1 x2 x3 : Value} : AW d 191 10 [x0, x1, x2, x3] (st) σ ρ g τ Q = AW d 191 11 [x0, x1, x2, x3] (.int 0 :: st) σ ρ g τ Q := aw_lc m191 d191_10 rfl rfl rfl
theorem d191_11 : decode cX12_number 11 = .ok (.istore_n 3, 1) := by decide +kernel
theorem s191_11 {d : Nat} {st : List Value} {σ : am_I} {ρ : am_R} {g : am_J} {τ : am_T} {Q : am_Q} {x0 x1 x3 : Value} {v : Int32} {u : Int32} : AW d 191 11 [x0, x1, .int u, x3] (.int v :: st) σ ρ g τ Q = AW d 191 12 [x0, x1, .int u, .int v] (st) σ ρ g τ Q := aw_lc m191 d191_11 rfl rfl rfl
theorem d191_12 : decode cX12_number 12 = .ok (.aload_n 0, 1) := by decide +kernel
theorem s191_12 {d : Nat} {st : List Value} {σ : am_I} {ρ : am_R} {g : am_J} {τ : am_T} {Q : am_Q} {x1 x2 x3 : Value} {v : Nat} : AW d 191 12 [.ref v, x1, x2, x3] (st) σ ρ g τ Q = AW d 191 13 [.ref v, x1, x2, x3] (.ref v :: st) σ ρ g τ Q := aw_lc m191 d191_12 rfl rfl rfl
theorem d191_13 : decode cX12_number 13 = .ok (.iload_n 2, 1) := by decide +kernel
theorem s191_13 {d : Nat} {st : List Value} {σ : am_I} {ρ : am_R} {g : am_J} {τ : am_T} {Q : am_Q} {x0 x1 x3 : Value} {v : Int32} : AW d 191 13 [x0, x1, .int v, x3] (st) σ ρ g τ Q = AW d 191 14 [x0, x1, .int v, x3] (.int v :: st) σ ρ g τ Q := aw_lc m191 d191_13 rfl rfl rfl
theorem d191_14 : decode cX12_number 14 = .ok (.invokevirtual 264, 3) := by decide +kernel
theorem s191_14 {d : Nat} {st : List Value} {σ : am_I} {ρ : am_R} {g : am_J} {τ : am_T} {Q : am_Q} {x0 x1 x2 x3 : Value} {p0 : Nat} {p1 : Int32} (ht : τ.1 p0 = 12) (hs : st.length ≤ 4) : AW (d + 1) 191 14 [x0, x1, x2, x3] (.int p1 :: .ref p0 :: st) σ ρ g τ Q = AW d 188 0 [.ref p0, .int p1] [] σ ρ g τ (fun r9 σ ρ g τ => AW (d + 1) 191 17 [x0, x1, x2, x3] (r9.toList ++ st) σ ρ g τ Q) := aw_cv m191 d191_14 rfl m188 rfl rfl (by decide) en188 ok188 rfl ht hs
theorem d191_17 : decode cX12_number 17 = .ok (.ifCond .eq 30, 3) := by decide +kernel
theorem s191_17 {d : Nat} {st : List Value} {σ : am_I} {ρ : am_R} {g : am_J} {τ : am_T} {Q : am_Q} {x0 x1 x2 x3 : Value} {v : Int32} : AW d 191 17 [x0, x1, x2, x3] (.int v :: st) σ ρ g τ Q = if v = 0 then AW d 191 47 [x0, x1, x2, x3] (st) σ ρ g τ Q else AW d 191 20 [x0, x1, x2, x3] (st) σ ρ g τ Q := aw_br m191 d191_17 rfl rfl rfl
theorem d191_20 : decode cX12_number 20 = .ok (.sipush 10000, 3) := by decide +kernel
theorem s191_20 {d : Nat} {st : List Value} {σ : am_I} {ρ : am_R} {g : am_J} {τ : am_T} {Q : am_Q} {x0 x1 x2 x3 : Value} : AW d 191 20 [x0, x1, x2, x3] (st) σ ρ g τ Q = AW d 191 23 [x0, x1, x2, x3] (.int 10000 :: st) σ ρ g τ Q := aw_lc m191 d191_20 rfl rfl rfl
theorem d191_23 : decode cX12_number 23 = .ok (.bipush 10, 2) := by decide +kernel
theorem s191_23 {d : Nat} {st : List Value} {σ : am_I} {ρ : am_R} {g : am_J} {τ : am_T} {Q : am_Q} {x0 x1 x2 x3 : Value} : AW d 191 23 [x0, x1, x2, x3] (st) σ ρ g τ Q = AW d 191 25 [x0, x1, x2, x3] (.int 10 :: st) σ ρ g τ Q := aw_lc m191 d191_23 rfl rfl rfl
theorem d191_25 : decode cX12_number 25 = .ok (.iload_n 3, 1) := by decide +kernel
theorem s191_25 {d : Nat} {st : List Value} {σ : am_I} {ρ : am_R} {g : am_J} {τ : am_T} {Q : am_Q} {x0 x1 x2 : Value} {v : Int32} : AW d 191 25 [x0, x1, x2, .int v] (st) σ ρ g τ Q = AW d 191 26 [x0, x1, x2, .int v] (.int v :: st) σ ρ g τ Q := aw_lc m191 d191_25 rfl rfl rfl
theorem d191_26 : decode cX12_number 26 = .ok (.imul, 1) := by decide +kernel
theorem s191_26 {d : Nat} {st : List Value} {σ : am_I} {ρ : am_R} {g : am_J} {τ : am_T} {Q : am_Q} {x0 x1 x2 x3 : Value} {v w : Int32} : AW d 191 26 [x0, x1, x2, x3] (.int w :: .int v :: st) σ ρ g τ Q = AW d 191 27 [x0, x1, x2, x3] (.int (v * w) :: st) σ ρ g τ Q := aw_lc m191 d191_26 rfl rfl rfl
theorem d191_27 : decode cX12_number 27 = .ok (.aload_n 0, 1) := by decide +kernel
theorem s191_27 {d : Nat} {st : List Value} {σ : am_I} {ρ : am_R} {g : am_J} {τ : am_T} {Q : am_Q} {x1 x2 x3 : Value} {v : Nat} : AW d 191 27 [.ref v, x1, x2, x3] (st) σ ρ g τ Q = AW d 191 28 [.ref v, x1, x2, x3] (.ref v :: st) σ ρ g τ Q := aw_lc m191 d191_27 rfl rfl rfl
theorem d191_28 : decode cX12_number 28 = .ok (.getfield 138, 3) := by decide +kernel
theorem s191_28 {d : Nat} {st : List Value} {σ : am_I} {ρ : am_R} {g : am_J} {τ : am_T} {Q : am_Q} {x0 x1 x2 x3 : Value} {a : Nat} (ht : τ.1 a = 12) : AW d 191 28 [x0, x1, x2, x3] (.ref a :: st) σ ρ g τ Q = AW d 191 31 [x0, x1, x2, x3] (va_rf (ρ a 43) :: st) σ ρ g τ Q := aw_gr m191 d191_28 rfl rfl rfl ht
theorem d191_31 : decode cX12_number 31 = .ok (.iload_n 2, 1) := by decide +kernel
theorem s191_31 {d : Nat} {st : List Value} {σ : am_I} {ρ : am_R} {g : am_J} {τ : am_T} {Q : am_Q} {x0 x1 x3 : Value} {v : Int32} : AW d 191 31 [x0, x1, .int v, x3] (st) σ ρ g τ Q = AW d 191 32 [x0, x1, .int v, x3] (.int v :: st) σ ρ g τ Q := aw_lc m191 d191_31 rfl rfl rfl
theorem d191_32 : decode cX12_number 32 = .ok (.iaload, 1) := by decide +kernel
theorem s191_32 {d : Nat} {st : List Value} {σ : am_I} {ρ : am_R} {g : am_J} {τ : am_T} {Q : am_Q} {x0 x1 x2 x3 : Value} {a : Nat} {j : Int32} (ht : τ.1 a = 15) (hj : am_inb j (τ.2.1 a) = true) : AW d 191 32 [x0, x1, x2, x3] (.int j :: .ref a :: st) σ ρ g τ Q = AW d 191 33 [x0, x1, x2, x3] (.int (σ a j.toNatClampNeg) :: st) σ ρ g τ Q := aw_ial m191 d191_32 rfl ht hj
theorem d191_33 : decode cX12_number 33 = .ok (.iadd, 1) := by decide +kernel
theorem s191_33 {d : Nat} {st : List Value} {σ : am_I} {ρ : am_R} {g : am_J} {τ : am_T} {Q : am_Q} {x0 x1 x2 x3 : Value} {v w : Int32} : AW d 191 33 [x0, x1, x2, x3] (.int w :: .int v :: st) σ ρ g τ Q = AW d 191 34 [x0, x1, x2, x3] (.int (v + w) :: st) σ ρ g τ Q := aw_lc m191 d191_33 rfl rfl rfl
theorem d191_34 : decode cX12_number 34 = .ok (.bipush 48, 2) := by decide +kernel
theorem s191_34 {d : Nat} {st : List Value} {σ : am_I} {ρ : am_R} {g : am_J} {τ : am_T} {Q : am_Q} {x0 x1 x2 x3 : Value} : AW d 191 34 [x0, x1, x2, x3] (st) σ ρ g τ Q = AW d 191 36 [x0, x1, x2, x3] (.int 48 :: st) σ ρ g τ Q := aw_lc m191 d191_34 rfl rfl rfl
theorem d191_36 : decode cX12_number 36 = .ok (.isub, 1) := by decide +kernel
theorem s191_36 {d : Nat} {st : List Value} {σ : am_I} {ρ : am_R} {g : am_J} {τ : am_T} {Q : am_Q} {x0 x1 x2 x3 : Value} {v w : Int32} : AW d 191 36 [x0, x1, x2, x3] (.int w :: .int v :: st) σ ρ g τ Q = AW d 191 37 [x0, x1, x2, x3] (.int (v - w) :: st) σ ρ g τ Q := aw_lc m191 d191_36 rfl rfl rfl
theorem d191_37 : decode cX12_number 37 = .ok (.invokestatic 232, 3) := by decide +kernel
theorem s191_37 {d : Nat} {st : List Value} {σ : am_I} {ρ : am_R} {g : am_J} {τ : am_T} {Q : am_Q} {x0 x1 x2 x3 : Value} {v w : Int32} (hs : st.length ≤ 4) : AW d 191 37 [x0, x1, x2, x3] (.int w :: .int v :: st) σ ρ g τ Q = AW d 191 40 [x0, x1, x2, x3] (.int (if w < v then w else v) :: st) σ ρ g τ Q := aw_min m191 d191_37 rfl rfl hs
theorem d191_40 : decode cX12_number 40 = .ok (.istore_n 3, 1) := by decide +kernel
theorem s191_40 {d : Nat} {st : List Value} {σ : am_I} {ρ : am_R} {g : am_J} {τ : am_T} {Q : am_Q} {x0 x1 x3 : Value} {v : Int32} {u : Int32} : AW d 191 40 [x0, x1, .int u, x3] (.int v :: st) σ ρ g τ Q = AW d 191 41 [x0, x1, .int u, .int v] (st) σ ρ g τ Q := aw_lc m191 d191_40 rfl rfl rfl
theorem d191_41 : decode cX12_number 41 = .ok (.iinc 2 1, 3) := by decide +kernel
theorem s191_41 {d : Nat} {st : List Value} {σ : am_I} {ρ : am_R} {g : am_J} {τ : am_T} {Q : am_Q} {x0 x3 : Value} {v : Int32} {u : Int32} : AW d 191 41 [x0, .int u, .int v, x3] (st) σ ρ g τ Q = AW d 191 44 [x0, .int u, .int (v + 1), x3] (st) σ ρ g τ Q := aw_lc m191 d191_41 rfl rfl rfl
theorem d191_44 : decode cX12_number 44 = .ok (.goto (-32), 3) := by decide +kernel
theorem s191_44 {d : Nat} {st : List Value} {σ : am_I} {ρ : am_R} {g : am_J} {τ : am_T} {Q : am_Q} {x0 x1 x2 x3 : Value} : AW d 191 44 [x0, x1, x2, x3] (st) σ ρ g τ Q = AW d 191 12 [x0, x1, x2, x3] (st) σ ρ g τ Q := aw_lc m191 d191_44 rfl rfl rfl
theorem d191_47 : decode cX12_number 47 = .ok (.iload_n 2, 1) := by decide +kernel
theorem s191_47 {d : Nat} {st : List Value} {σ : am_I} {ρ : am_R} {g : am_J} {τ : am_T} {Q : am_Q} {x0 x1 x3 : Value} {v : Int32} : AW d 191 47 [x0, x1, .int v, x3] (st) σ ρ g τ Q = AW d 191 48 [x0, x1, .int v, x3] (.int v :: st) σ ρ g τ Q := aw_lc m191 d191_47 rfl rfl rfl
theorem d191_48 : decode cX12_number 48 = .ok (.aload_n 0, 1) := by decide +kernel
theorem s191_48 {d : Nat} {st : List Value} {σ : am_I} {ρ : am_R} {g : am_J} {τ : am_T} {Q : am_Q} {x1 x2 x3 : Value} {v : Nat} : AW d 191 48 [.ref v, x1, x2, x3] (st) σ ρ g τ Q = AW d 191 49 [.ref v, x1, x2, x3] (.ref v :: st) σ ρ g τ Q := aw_lc m191 d191_48 rfl rfl rfl
theorem d191_49 : decode cX12_number 49 = .ok (.getfield 238, 3) := by decide +kernel
theorem s191_49 {d : Nat} {st : List Value} {σ : am_I} {ρ : am_R} {g : am_J} {τ : am_T} {Q : am_Q} {x0 x1 x2 x3 : Value} {a : Nat} (ht : τ.1 a = 12) : AW d 191 49 [x0, x1, x2, x3] (.ref a :: st) σ ρ g τ Q = AW d 191 52 [x0, x1, x2, x3] (.int (σ a 57) :: st) σ ρ g τ Q := aw_gi m191 d191_49 rfl rfl rfl ht
theorem d191_52 : decode cX12_number 52 = .ok (.if_icmp .eq 18, 3) := by decide +kernel
theorem s191_52 {d : Nat} {st : List Value} {σ : am_I} {ρ : am_R} {g : am_J} {τ : am_T} {Q : am_Q} {x0 x1 x2 x3 : Value} {v w : Int32} : AW d 191 52 [x0, x1, x2, x3] (.int w :: .int v :: st) σ ρ g τ Q = if v = w then AW d 191 70 [x0, x1, x2, x3] (st) σ ρ g τ Q else AW d 191 55 [x0, x1, x2, x3] (st) σ ρ g τ Q := aw_br m191 d191_52 rfl rfl rfl
theorem d191_55 : decode cX12_number 55 = .ok (.iload_n 2, 1) := by decide +kernel
theorem s191_55 {d : Nat} {st : List Value} {σ : am_I} {ρ : am_R} {g : am_J} {τ : am_T} {Q : am_Q} {x0 x1 x3 : Value} {v : Int32} : AW d 191 55 [x0, x1, .int v, x3] (st) σ ρ g τ Q = AW d 191 56 [x0, x1, .int v, x3] (.int v :: st) σ ρ g τ Q := aw_lc m191 d191_55 rfl rfl rfl
theorem d191_56 : decode cX12_number 56 = .ok (.aload_n 0, 1) := by decide +kernel
theorem s191_56 {d : Nat} {st : List Value} {σ : am_I} {ρ : am_R} {g : am_J} {τ : am_T} {Q : am_Q} {x1 x2 x3 : Value} {v : Nat} : AW d 191 56 [.ref v, x1, x2, x3] (st) σ ρ g τ Q = AW d 191 57 [.ref v, x1, x2, x3] (.ref v :: st) σ ρ g τ Q := aw_lc m191 d191_56 rfl rfl rfl
theorem d191_57 : decode cX12_number 57 = .ok (.getfield 238, 3) := by decide +kernel
theorem s191_57 {d : Nat} {st : List Value} {σ : am_I} {ρ : am_R} {g : am_J} {τ : am_T} {Q : am_Q} {x0 x1 x2 x3 : Value} {a : Nat} (ht : τ.1 a = 12) : AW d 191 57 [x0, x1, x2, x3] (.ref a :: st) σ ρ g τ Q = AW d 191 60 [x0, x1, x2, x3] (.int (σ a 57) :: st) σ ρ g τ Q := aw_gi m191 d191_57 rfl rfl rfl ht
theorem d191_60 : decode cX12_number 60 = .ok (.isub, 1) := by decide +kernel
theorem s191_60 {d : Nat} {st : List Value} {σ : am_I} {ρ : am_R} {g : am_J} {τ : am_T} {Q : am_Q} {x0 x1 x2 x3 : Value} {v w : Int32} : AW d 191 60 [x0, x1, x2, x3] (.int w :: .int v :: st) σ ρ g τ Q = AW d 191 61 [x0, x1, x2, x3] (.int (v - w) :: st) σ ρ g τ Q := aw_lc m191 d191_60 rfl rfl rfl
theorem d191_61 : decode cX12_number 61 = .ok (.iconst 3, 1) := by decide +kernel
theorem s191_61 {d : Nat} {st : List Value} {σ : am_I} {ρ : am_R} {g : am_J} {τ : am_T} {Q : am_Q} {x0 x1 x2 x3 : Value} : AW d 191 61 [x0, x1, x2, x3] (st) σ ρ g τ Q = AW d 191 62 [x0, x1, x2, x3] (.int 3 :: st) σ ρ g τ Q := aw_lc m191 d191_61 rfl rfl rfl
theorem d191_62 : decode cX12_number 62 = .ok (.if_icmp .gt 8, 3) := by decide +kernel
theorem s191_62 {d : Nat} {st : List Value} {σ : am_I} {ρ : am_R} {g : am_J} {τ : am_T} {Q : am_Q} {x0 x1 x2 x3 : Value} {v w : Int32} : AW d 191 62 [x0, x1, x2, x3] (.int w :: .int v :: st) σ ρ g τ Q = if w < v then AW d 191 70 [x0, x1, x2, x3] (st) σ ρ g τ Q else AW d 191 65 [x0, x1, x2, x3] (st) σ ρ g τ Q := aw_br m191 d191_62 rfl rfl rfl
theorem d191_65 : decode cX12_number 65 = .ok (.iload_n 3, 1) := by decide +kernel
theorem s191_65 {d : Nat} {st : List Value} {σ : am_I} {ρ : am_R} {g : am_J} {τ : am_T} {Q : am_Q} {x0 x1 x2 : Value} {v : Int32} : AW d 191 65 [x0, x1, x2, .int v] (st) σ ρ g τ Q = AW d 191 66 [x0, x1, x2, .int v] (.int v :: st) σ ρ g τ Q := aw_lc m191 d191_65 rfl rfl rfl
theorem d191_66 : decode cX12_number 66 = .ok (.iload_n 1, 1) := by decide +kernel
theorem s191_66 {d : Nat} {st : List Value} {σ : am_I} {ρ : am_R} {g : am_J} {τ : am_T} {Q : am_Q} {x0 x2 x3 : Value} {v : Int32} : AW d 191 66 [x0, .int v, x2, x3] (st) σ ρ g τ Q = AW d 191 67 [x0, .int v, x2, x3] (.int v :: st) σ ρ g τ Q := aw_lc m191 d191_66 rfl rfl rfl
theorem d191_67 : decode cX12_number 67 = .ok (.if_icmp .le 8, 3) := by decide +kernel
theorem s191_67 {d : Nat} {st : List Value} {σ : am_I} {ρ : am_R} {g : am_J} {τ : am_T} {Q : am_Q} {x0 x1 x2 x3 : Value} {v w : Int32} : AW d 191 67 [x0, x1, x2, x3] (.int w :: .int v :: st) σ ρ g τ Q = if v ≤ w then AW d 191 75 [x0, x1, x2, x3] (st) σ ρ g τ Q else AW d 191 70 [x0, x1, x2, x3] (st) σ ρ g τ Q := aw_br m191 d191_67 rfl rfl rfl
theorem d191_70 : decode cX12_number 70 = .ok (.aload_n 0, 1) := by decide +kernel
theorem s191_70 {d : Nat} {st : List Value} {σ : am_I} {ρ : am_R} {g : am_J} {τ : am_T} {Q : am_Q} {x1 x2 x3 : Value} {v : Nat} : AW d 191 70 [.ref v, x1, x2, x3] (st) σ ρ g τ Q = AW d 191 71 [.ref v, x1, x2, x3] (.ref v :: st) σ ρ g τ Q := aw_lc m191 d191_70 rfl rfl rfl
theorem d191_71 : decode cX12_number 71 = .ok (.invokevirtual 267, 3) := by decide +kernel
theorem s191_71 {d : Nat} {st : List Value} {σ : am_I} {ρ : am_R} {g : am_J} {τ : am_T} {Q : am_Q} {x0 x1 x2 x3 : Value} {p0 : Nat} (ht : τ.1 p0 = 12) (hs : st.length ≤ 4) : AW (d + 1) 191 71 [x0, x1, x2, x3] (.ref p0 :: st) σ ρ g τ Q = AW d 186 0 [.ref p0] [] σ ρ g τ (fun r9 σ ρ g τ => AW (d + 1) 191 74 [x0, x1, x2, x3] (r9.toList ++ st) σ ρ g τ Q) := aw_cv m191 d191_71 rfl m186 rfl rfl (by decide) en186 ok186 rfl ht hs
theorem d191_74 : decode cX12_number 74 = .ok (.ireturn, 1) := by decide +kernel
theorem s191_74 {d : Nat} {σ : am_I} {ρ : am_R} {g : am_J} {τ : am_T} {Q : am_Q} {x0 x1 x2 x3 : Value} {v : Int32} (hv : am_b01 v = true) : AW d 191 74 [x0, x1, x2, x3] ([.int v]) σ ρ g τ Q = Q (some (.int v)) σ ρ g τ := aw_rz m191 d191_74 rfl hv
theorem d191_75 : decode cX12_number 75 = .ok (.aload_n 0, 1) := by decide +kernel
theorem s191_75 {d : Nat} {st : List Value} {σ : am_I} {ρ : am_R} {g : am_J} {τ : am_T} {Q : am_Q} {x1 x2 x3 : Value} {v : Nat} : AW d 191 75 [.ref v, x1, x2, x3] (st) σ ρ g τ Q = AW d 191 76 [.ref v, x1, x2, x3] (.ref v :: st) σ ρ g τ Q := aw_lc m191 d191_75 rfl rfl rfl
theorem d191_76 : decode cX12_number 76 = .ok (.iload_n 2, 1) := by decide +kernel
theorem s191_76 {d : Nat} {st : List Value} {σ : am_I} {ρ : am_R} {g : am_J} {τ : am_T} {Q : am_Q} {x0 x1 x3 : Value} {v : Int32} : AW d 191 76 [x0, x1, .int v, x3] (st) σ ρ g τ Q = AW d 191 77 [x0, x1, .int v, x3] (.int v :: st) σ ρ g τ Q := aw_lc m191 d191_76 rfl rfl rfl
theorem d191_77 : decode cX12_number 77 = .ok (.putfield 238, 3) := by decide +kernel
theorem s191_77 {d : Nat} {st : List Value} {σ : am_I} {ρ : am_R} {g : am_J} {τ : am_T} {Q : am_Q} {x0 x1 x2 x3 : Value} {a : Nat} {v : Int32} (ht : τ.1 a = 12) : AW d 191 77 [x0, x1, x2, x3] (.int v :: .ref a :: st) σ ρ g τ Q = AW d 191 80 [x0, x1, x2, x3] (st) (am_u σ a 57 v) ρ g τ Q := aw_pi m191 d191_77 rfl rfl (Or.inl rfl) rfl ht
theorem d191_80 : decode cX12_number 80 = .ok (.aload_n 0, 1) := by decide +kernel
theorem s191_80 {d : Nat} {st : List Value} {σ : am_I} {ρ : am_R} {g : am_J} {τ : am_T} {Q : am_Q} {x1 x2 x3 : Value} {v : Nat} : AW d 191 80 [.ref v, x1, x2, x3] (st) σ ρ g τ Q = AW d 191 81 [.ref v, x1, x2, x3] (.ref v :: st) σ ρ g τ Q := aw_lc m191 d191_80 rfl rfl rfl
theorem d191_81 : decode cX12_number 81 = .ok (.iload_n 3, 1) := by decide +kernel
theorem s191_81 {d : Nat} {st : List Value} {σ : am_I} {ρ : am_R} {g : am_J} {τ : am_T} {Q : am_Q} {x0 x1 x2 : Value} {v : Int32} : AW d 191 81 [x0, x1, x2, .int v] (st) σ ρ g τ Q = AW d 191 82 [x0, x1, x2, .int v] (.int v :: st) σ ρ g τ Q := aw_lc m191 d191_81 rfl rfl rfl
theorem d191_82 : decode cX12_number 82 = .ok (.putfield 271, 3) := by decide +kernel
theorem s191_82 {d : Nat} {st : List Value} {σ : am_I} {ρ : am_R} {g : am_J} {τ : am_T} {Q : am_Q} {x0 x1 x2 x3 : Value} {a : Nat} {v : Int32} (ht : τ.1 a = 12) : AW d 191 82 [x0, x1, x2, x3] (.int v :: .ref a :: st) σ ρ g τ Q = AW d 191 85 [x0, x1, x2, x3] (st) (am_u σ a 62 v) ρ g τ Q := aw_pi m191 d191_82 rfl rfl (Or.inl rfl) rfl ht
theorem d191_85 : decode cX12_number 85 = .ok (.iconst 1, 1) := by decide +kernel
theorem s191_85 {d : Nat} {st : List Value} {σ : am_I} {ρ : am_R} {g : am_J} {τ : am_T} {Q : am_Q} {x0 x1 x2 x3 : Value} : AW d 191 85 [x0, x1, x2, x3] (st) σ ρ g τ Q = AW d 191 86 [x0, x1, x2, x3] (.int 1 :: st) σ ρ g τ Q := aw_lc m191 d191_85 rfl rfl rfl
theorem d191_86 : decode cX12_number 86 = .ok (.ireturn, 1) := by decide +kernel
theorem s191_86 {d : Nat} {σ : am_I} {ρ : am_R} {g : am_J} {τ : am_T} {Q : am_Q} {x0 x1 x2 x3 : Value} {v : Int32} (hv : am_b01 v = true) : AW d 191 86 [x0, x1, x2, x3] ([.int v]) σ ρ g τ Q = Q (some (.int v)) σ ρ g τ := aw_rz m191 d191_86 rfl hv
theorem d192_0 : decode cX12_write 0 = .ok (.aload_n 0, 1) := by decide +kernel
theorem s192_0 {d : Nat} {st : List Value} {σ : am_I} {ρ : am_R} {g : am_J} {τ : am_T} {Q : am_Q} {x1 : Value} {v : Nat} : AW d 192 0 [.ref v, x1] (st) σ ρ g τ Q = AW d 192 1 [.ref v, x1] (.ref v :: st) σ ρ g τ Q := aw_lc m192 d192_0 rfl rfl rfl
theorem d192_1 : decode cX12_write 1 = .ok (.getfield 88, 3) := by decide +kernel
theorem s192_1 {d : Nat} {st : List Value} {σ : am_I} {ρ : am_R} {g : am_J} {τ : am_T} {Q : am_Q} {x0 x1 : Value} {a : Nat} (ht : τ.1 a = 12) : AW d 192 1 [x0, x1] (.ref a :: st) σ ρ g τ Q = AW d 192 4 [x0, x1] (va_rf (ρ a 26) :: st) σ ρ g τ Q := aw_gr m192 d192_1 rfl rfl rfl ht
theorem d192_4 : decode cX12_write 4 = .ok (.sipush 256, 3) := by decide +kernel
theorem s192_4 {d : Nat} {st : List Value} {σ : am_I} {ρ : am_R} {g : am_J} {τ : am_T} {Q : am_Q} {x0 x1 : Value} : AW d 192 4 [x0, x1] (st) σ ρ g τ Q = AW d 192 7 [x0, x1] (.int 256 :: st) σ ρ g τ Q := aw_lc m192 d192_4 rfl rfl rfl
theorem d192_7 : decode cX12_write 7 = .ok (.aload_n 0, 1) := by decide +kernel
theorem s192_7 {d : Nat} {st : List Value} {σ : am_I} {ρ : am_R} {g : am_J} {τ : am_T} {Q : am_Q} {x1 : Value} {v : Nat} : AW d 192 7 [.ref v, x1] (st) σ ρ g τ Q = AW d 192 8 [.ref v, x1] (.ref v :: st) σ ρ g τ Q := aw_lc m192 d192_7 rfl rfl rfl
theorem d192_8 : decode cX12_write 8 = .ok (.getfield 274, 3) := by decide +kernel
theorem s192_8 {d : Nat} {st : List Value} {σ : am_I} {ρ : am_R} {g : am_J} {τ : am_T} {Q : am_Q} {x0 x1 : Value} {a : Nat} (ht : τ.1 a = 12) : AW d 192 8 [x0, x1] (.ref a :: st) σ ρ g τ Q = AW d 192 11 [x0, x1] (.int (σ a 60) :: st) σ ρ g τ Q := aw_gi m192 d192_8 rfl rfl rfl ht
theorem d192_11 : decode cX12_write 11 = .ok (.imul, 1) := by decide +kernel
theorem s192_11 {d : Nat} {st : List Value} {σ : am_I} {ρ : am_R} {g : am_J} {τ : am_T} {Q : am_Q} {x0 x1 : Value} {v w : Int32} : AW d 192 11 [x0, x1] (.int w :: .int v :: st) σ ρ g τ Q = AW d 192 12 [x0, x1] (.int (v * w) :: st) σ ρ g τ Q := aw_lc m192 d192_11 rfl rfl rfl
theorem d192_12 : decode cX12_write 12 = .ok (.aload_n 0, 1) := by decide +kernel
theorem s192_12 {d : Nat} {st : List Value} {σ : am_I} {ρ : am_R} {g : am_J} {τ : am_T} {Q : am_Q} {x1 : Value} {v : Nat} : AW d 192 12 [.ref v, x1] (st) σ ρ g τ Q = AW d 192 13 [.ref v, x1] (.ref v :: st) σ ρ g τ Q := aw_lc m192 d192_12 rfl rfl rfl
theorem d192_13 : decode cX12_write 13 = .ok (.getfield 277, 3) := by decide +kernel
theorem s192_13 {d : Nat} {st : List Value} {σ : am_I} {ρ : am_R} {g : am_J} {τ : am_T} {Q : am_Q} {x0 x1 : Value} {a : Nat} (ht : τ.1 a = 12) : AW d 192 13 [x0, x1] (.ref a :: st) σ ρ g τ Q = AW d 192 16 [x0, x1] (.int (σ a 61) :: st) σ ρ g τ Q := aw_gi m192 d192_13 rfl rfl rfl ht
theorem d192_16 : decode cX12_write 16 = .ok (.iadd, 1) := by decide +kernel
theorem s192_16 {d : Nat} {st : List Value} {σ : am_I} {ρ : am_R} {g : am_J} {τ : am_T} {Q : am_Q} {x0 x1 : Value} {v w : Int32} : AW d 192 16 [x0, x1] (.int w :: .int v :: st) σ ρ g τ Q = AW d 192 17 [x0, x1] (.int (v + w) :: st) σ ρ g τ Q := aw_lc m192 d192_16 rfl rfl rfl
theorem d192_17 : decode cX12_write 17 = .ok (.iload_n 1, 1) := by decide +kernel
theorem s192_17 {d : Nat} {st : List Value} {σ : am_I} {ρ : am_R} {g : am_J} {τ : am_T} {Q : am_Q} {x0 : Value} {v : Int32} : AW d 192 17 [x0, .int v] (st) σ ρ g τ Q = AW d 192 18 [x0, .int v] (.int v :: st) σ ρ g τ Q := aw_lc m192 d192_17 rfl rfl rfl
theorem d192_18 : decode cX12_write 18 = .ok (.iastore, 1) := by decide +kernel
theorem s192_18 {d : Nat} {st : List Value} {σ : am_I} {ρ : am_R} {g : am_J} {τ : am_T} {Q : am_Q} {x0 x1 : Value} {a : Nat} {j v : Int32} (ht : τ.1 a = 15) (ha : a < am_BG) (hj : am_inb j (τ.2.1 a) = true) : AW d 192 18 [x0, x1] (.int v :: .int j :: .ref a :: st) σ ρ g τ Q = AW d 192 19 [x0, x1] (st) (am_u σ a j.toNatClampNeg v) ρ g τ Q := aw_ias m192 d192_18 rfl ht ha hj
theorem d192_19 : decode cX12_write 19 = .ok (.aload_n 0, 1) := by decide +kernel
theorem s192_19 {d : Nat} {st : List Value} {σ : am_I} {ρ : am_R} {g : am_J} {τ : am_T} {Q : am_Q} {x1 : Value} {v : Nat} : AW d 192 19 [.ref v, x1] (st) σ ρ g τ Q = AW d 192 20 [.ref v, x1] (.ref v :: st) σ ρ g τ Q := aw_lc m192 d192_19 rfl rfl rfl
theorem d192_20 : decode cX12_write 20 = .ok (.dup, 1) := by decide +kernel
theorem s192_20 {d : Nat} {st : List Value} {σ : am_I} {ρ : am_R} {g : am_J} {τ : am_T} {Q : am_Q} {x0 x1 : Value} {v : Int32} : AW d 192 20 [x0, x1] (.int v :: st) σ ρ g τ Q = AW d 192 21 [x0, x1] (.int v :: .int v :: st) σ ρ g τ Q := aw_lc m192 d192_20 rfl rfl rfl
theorem s192_20r {d : Nat} {st : List Value} {σ : am_I} {ρ : am_R} {g : am_J} {τ : am_T} {Q : am_Q} {x0 x1 : Value} {v : Nat} : AW d 192 20 [x0, x1] (.ref v :: st) σ ρ g τ Q = AW d 192 21 [x0, x1] (.ref v :: .ref v :: st) σ ρ g τ Q := aw_lc m192 d192_20 rfl rfl rfl
theorem d192_21 : decode cX12_write 21 = .ok (.getfield 277, 3) := by decide +kernel
theorem s192_21 {d : Nat} {st : List Value} {σ : am_I} {ρ : am_R} {g : am_J} {τ : am_T} {Q : am_Q} {x0 x1 : Value} {a : Nat} (ht : τ.1 a = 12) : AW d 192 21 [x0, x1] (.ref a :: st) σ ρ g τ Q = AW d 192 24 [x0, x1] (.int (σ a 61) :: st) σ ρ g τ Q := aw_gi m192 d192_21 rfl rfl rfl ht
theorem d192_24 : decode cX12_write 24 = .ok (.iconst 1, 1) := by decide +kernel
theorem s192_24 {d : Nat} {st : List Value} {σ : am_I} {ρ : am_R} {g : am_J} {τ : am_T} {Q : am_Q} {x0 x1 : Value} : AW d 192 24 [x0, x1] (st) σ ρ g τ Q = AW d 192 25 [x0, x1] (.int 1 :: st) σ ρ g τ Q := aw_lc m192 d192_24 rfl rfl rfl
theorem d192_25 : decode cX12_write 25 = .ok (.iadd, 1) := by decide +kernel
theorem s192_25 {d : Nat} {st : List Value} {σ : am_I} {ρ : am_R} {g : am_J} {τ : am_T} {Q : am_Q} {x0 x1 : Value} {v w : Int32} : AW d 192 25 [x0, x1] (.int w :: .int v :: st) σ ρ g τ Q = AW d 192 26 [x0, x1] (.int (v + w) :: st) σ ρ g τ Q := aw_lc m192 d192_25 rfl rfl rfl
theorem d192_26 : decode cX12_write 26 = .ok (.putfield 277, 3) := by decide +kernel
theorem s192_26 {d : Nat} {st : List Value} {σ : am_I} {ρ : am_R} {g : am_J} {τ : am_T} {Q : am_Q} {x0 x1 : Value} {a : Nat} {v : Int32} (ht : τ.1 a = 12) : AW d 192 26 [x0, x1] (.int v :: .ref a :: st) σ ρ g τ Q = AW d 192 29 [x0, x1] (st) (am_u σ a 61 v) ρ g τ Q := aw_pi m192 d192_26 rfl rfl (Or.inl rfl) rfl ht
theorem d192_29 : decode cX12_write 29 = .ok (.return_, 1) := by decide +kernel
theorem s192_29 {d : Nat} {σ : am_I} {ρ : am_R} {g : am_J} {τ : am_T} {Q : am_Q} {x0 x1 : Value} : AW d 192 29 [x0, x1] ([]) σ ρ g τ Q = Q none σ ρ g τ := aw_rv m192 d192_29 rfl
theorem d193_0 : decode cX12_sortHere 0 = .ok (.aload_n 0, 1) := by decide +kernel
theorem s193_0 {d : Nat} {st : List Value} {σ : am_I} {ρ : am_R} {g : am_J} {τ : am_T} {Q : am_Q} {v : Nat} : AW d 193 0 [.ref v] (st) σ ρ g τ Q = AW d 193 1 [.ref v] (.ref v :: st) σ ρ g τ Q := aw_lc m193 d193_0 rfl rfl rfl
theorem d193_1 : decode cX12_sortHere 1 = .ok (.ldc_w 280, 3) := by decide +kernel
theorem s193_1 {d : Nat} {st : List Value} {σ : am_I} {ρ : am_R} {g : am_J} {τ : am_T} {Q : am_Q} {x0 : Value} : AW d 193 1 [x0] (st) σ ρ g τ Q = AW d 193 4 [x0] (.ref (am_BG + 28) :: st) σ ρ g τ Q := aw_lws m193 d193_1 rfl rfl
theorem d193_4 : decode cX12_sortHere 4 = .ok (.invokevirtual 282, 3) := by decide +kernel
theorem s193_4 {d : Nat} {st : List Value} {σ : am_I} {ρ : am_R} {g : am_J} {τ : am_T} {Q : am_Q} {x0 : Value} {p0 : Nat} {p1 : Nat} (ht : τ.1 p0 = 12) (hs : st.length ≤ 4) : AW (d + 1) 193 4 [x0] (.ref p1 :: .ref p0 :: st) σ ρ g τ Q = AW d 189 0 [.ref p0, .ref p1, am_jk] [] σ ρ g τ (fun r9 σ ρ g τ => AW (d + 1) 193 7 [x0] (r9.toList ++ st) σ ρ g τ Q) := aw_cv m193 d193_4 rfl m189 rfl rfl (by decide) en189 ok189 rfl ht hs
theorem d193_7 : decode cX12_sortHere 7 = .ok (.ifCond .eq 7, 3) := by decide +kernel
theorem s193_7 {d : Nat} {st : List Value} {σ : am_I} {ρ : am_R} {g : am_J} {τ : am_T} {Q : am_Q} {x0 : Value} {v : Int32} : AW d 193 7 [x0] (.int v :: st) σ ρ g τ Q = if v = 0 then AW d 193 14 [x0] (st) σ ρ g τ Q else AW d 193 10 [x0] (st) σ ρ g τ Q := aw_br m193 d193_7 rfl rfl rfl
theorem d193_10 : decode cX12_sortHere 10 = .ok (.iconst 0, 1) := by decide +kernel
theorem s193_10 {d : Nat} {st : List Value} {σ : am_I} {ρ : am_R} {g : am_J} {τ : am_T} {Q : am_Q} {x0 : Value} : AW d 193 10 [x0] (st) σ ρ g τ Q = AW d 193 11 [x0] (.int 0 :: st) σ ρ g τ Q := aw_lc m193 d193_10 rfl rfl rfl
theorem d193_11 : decode cX12_sortHere 11 = .ok (.goto 32, 3) := by decide +kernel
theorem s193_11 {d : Nat} {st : List Value} {σ : am_I} {ρ : am_R} {g : am_J} {τ : am_T} {Q : am_Q} {x0 : Value} : AW d 193 11 [x0] (st) σ ρ g τ Q = AW d 193 43 [x0] (st) σ ρ g τ Q := aw_lc m193 d193_11 rfl rfl rfl
theorem d193_14 : decode cX12_sortHere 14 = .ok (.aload_n 0, 1) := by decide +kernel
theorem s193_14 {d : Nat} {st : List Value} {σ : am_I} {ρ : am_R} {g : am_J} {τ : am_T} {Q : am_Q} {v : Nat} : AW d 193 14 [.ref v] (st) σ ρ g τ Q = AW d 193 15 [.ref v] (.ref v :: st) σ ρ g τ Q := aw_lc m193 d193_14 rfl rfl rfl
theorem d193_15 : decode cX12_sortHere 15 = .ok (.ldc_w 286, 3) := by decide +kernel
theorem s193_15 {d : Nat} {st : List Value} {σ : am_I} {ρ : am_R} {g : am_J} {τ : am_T} {Q : am_Q} {x0 : Value} : AW d 193 15 [x0] (st) σ ρ g τ Q = AW d 193 18 [x0] (.ref (am_BG + 29) :: st) σ ρ g τ Q := aw_lws m193 d193_15 rfl rfl
theorem d193_18 : decode cX12_sortHere 18 = .ok (.invokevirtual 282, 3) := by decide +kernel
theorem s193_18 {d : Nat} {st : List Value} {σ : am_I} {ρ : am_R} {g : am_J} {τ : am_T} {Q : am_Q} {x0 : Value} {p0 : Nat} {p1 : Nat} (ht : τ.1 p0 = 12) (hs : st.length ≤ 4) : AW (d + 1) 193 18 [x0] (.ref p1 :: .ref p0 :: st) σ ρ g τ Q = AW d 189 0 [.ref p0, .ref p1, am_jk] [] σ ρ g τ (fun r9 σ ρ g τ => AW (d + 1) 193 21 [x0] (r9.toList ++ st) σ ρ g τ Q) := aw_cv m193 d193_18 rfl m189 rfl rfl (by decide) en189 ok189 rfl ht hs
theorem d193_21 : decode cX12_sortHere 21 = .ok (.ifCond .eq 7, 3) := by decide +kernel
theorem s193_21 {d : Nat} {st : List Value} {σ : am_I} {ρ : am_R} {g : am_J} {τ : am_T} {Q : am_Q} {x0 : Value} {v : Int32} : AW d 193 21 [x0] (.int v :: st) σ ρ g τ Q = if v = 0 then AW d 193 28 [x0] (st) σ ρ g τ Q else AW d 193 24 [x0] (st) σ ρ g τ Q := aw_br m193 d193_21 rfl rfl rfl
theorem d193_24 : decode cX12_sortHere 24 = .ok (.iconst 1, 1) := by decide +kernel
theorem s193_24 {d : Nat} {st : List Value} {σ : am_I} {ρ : am_R} {g : am_J} {τ : am_T} {Q : am_Q} {x0 : Value} : AW d 193 24 [x0] (st) σ ρ g τ Q = AW d 193 25 [x0] (.int 1 :: st) σ ρ g τ Q := aw_lc m193 d193_24 rfl rfl rfl
theorem d193_25 : decode cX12_sortHere 25 = .ok (.goto 18, 3) := by decide +kernel
theorem s193_25 {d : Nat} {st : List Value} {σ : am_I} {ρ : am_R} {g : am_J} {τ : am_T} {Q : am_Q} {x0 : Value} : AW d 193 25 [x0] (st) σ ρ g τ Q = AW d 193 43 [x0] (st) σ ρ g τ Q := aw_lc m193 d193_25 rfl rfl rfl
theorem d193_28 : decode cX12_sortHere 28 = .ok (.aload_n 0, 1) := by decide +kernel
theorem s193_28 {d : Nat} {st : List Value} {σ : am_I} {ρ : am_R} {g : am_J} {τ : am_T} {Q : am_Q} {v : Nat} : AW d 193 28 [.ref v] (st) σ ρ g τ Q = AW d 193 29 [.ref v] (.ref v :: st) σ ρ g τ Q := aw_lc m193 d193_28 rfl rfl rfl
theorem d193_29 : decode cX12_sortHere 29 = .ok (.ldc_w 288, 3) := by decide +kernel
theorem s193_29 {d : Nat} {st : List Value} {σ : am_I} {ρ : am_R} {g : am_J} {τ : am_T} {Q : am_Q} {x0 : Value} : AW d 193 29 [x0] (st) σ ρ g τ Q = AW d 193 32 [x0] (.ref (am_BG + 30) :: st) σ ρ g τ Q := aw_lws m193 d193_29 rfl rfl
theorem d193_32 : decode cX12_sortHere 32 = .ok (.invokevirtual 282, 3) := by decide +kernel
theorem s193_32 {d : Nat} {st : List Value} {σ : am_I} {ρ : am_R} {g : am_J} {τ : am_T} {Q : am_Q} {x0 : Value} {p0 : Nat} {p1 : Nat} (ht : τ.1 p0 = 12) (hs : st.length ≤ 4) : AW (d + 1) 193 32 [x0] (.ref p1 :: .ref p0 :: st) σ ρ g τ Q = AW d 189 0 [.ref p0, .ref p1, am_jk] [] σ ρ g τ (fun r9 σ ρ g τ => AW (d + 1) 193 35 [x0] (r9.toList ++ st) σ ρ g τ Q) := aw_cv m193 d193_32 rfl m189 rfl rfl (by decide) en189 ok189 rfl ht hs
theorem d193_35 : decode cX12_sortHere 35 = .ok (.ifCond .eq 7, 3) := by decide +kernel
theorem s193_35 {d : Nat} {st : List Value} {σ : am_I} {ρ : am_R} {g : am_J} {τ : am_T} {Q : am_Q} {x0 : Value} {v : Int32} : AW d 193 35 [x0] (.int v :: st) σ ρ g τ Q = if v = 0 then AW d 193 42 [x0] (st) σ ρ g τ Q else AW d 193 38 [x0] (st) σ ρ g τ Q := aw_br m193 d193_35 rfl rfl rfl
theorem d193_38 : decode cX12_sortHere 38 = .ok (.iconst 2, 1) := by decide +kernel
theorem s193_38 {d : Nat} {st : List Value} {σ : am_I} {ρ : am_R} {g : am_J} {τ : am_T} {Q : am_Q} {x0 : Value} : AW d 193 38 [x0] (st) σ ρ g τ Q = AW d 193 39 [x0] (.int 2 :: st) σ ρ g τ Q := aw_lc m193 d193_38 rfl rfl rfl
theorem d193_39 : decode cX12_sortHere 39 = .ok (.goto 4, 3) := by decide +kernel
theorem s193_39 {d : Nat} {st : List Value} {σ : am_I} {ρ : am_R} {g : am_J} {τ : am_T} {Q : am_Q} {x0 : Value} : AW d 193 39 [x0] (st) σ ρ g τ Q = AW d 193 43 [x0] (st) σ ρ g τ Q := aw_lc m193 d193_39 rfl rfl rfl
theorem d193_42 : decode cX12_sortHere 42 = .ok (.iconst (-1), 1) := by decide +kernel
theorem s193_42 {d : Nat} {st : List Value} {σ : am_I} {ρ : am_R} {g : am_J} {τ : am_T} {Q : am_Q} {x0 : Value} : AW d 193 42 [x0] (st) σ ρ g τ Q = AW d 193 43 [x0] (.int (-1) :: st) σ ρ g τ Q := aw_lc m193 d193_42 rfl rfl rfl
theorem d193_43 : decode cX12_sortHere 43 = .ok (.ireturn, 1) := by decide +kernel
theorem s193_43 {d : Nat} {σ : am_I} {ρ : am_R} {g : am_J} {τ : am_T} {Q : am_Q} {x0 : Value} {v : Int32} : AW d 193 43 [x0] ([.int v]) σ ρ g τ Q = Q (some (.int v)) σ ρ g τ := aw_ri m193 d193_43 rfl
theorem d194_0 : decode cX12_factHere 0 = .ok (.aload_n 0, 1) := by decide +kernel
theorem s194_0 {d : Nat} {st : List Value} {σ : am_I} {ρ : am_R} {g : am_J} {τ : am_T} {Q : am_Q} {v : Nat} : AW d 194 0 [.ref v] (st) σ ρ g τ Q = AW d 194 1 [.ref v] (.ref v :: st) σ ρ g τ Q := aw_lc m194 d194_0 rfl rfl rfl
theorem d194_1 : decode cX12_factHere 1 = .ok (.ldc_w 290, 3) := by decide +kernel
theorem s194_1 {d : Nat} {st : List Value} {σ : am_I} {ρ : am_R} {g : am_J} {τ : am_T} {Q : am_Q} {x0 : Value} : AW d 194 1 [x0] (st) σ ρ g τ Q = AW d 194 4 [x0] (.ref (am_BG + 33) :: st) σ ρ g τ Q := aw_lws m194 d194_1 rfl rfl
theorem d194_4 : decode cX12_factHere 4 = .ok (.invokevirtual 282, 3) := by decide +kernel
theorem s194_4 {d : Nat} {st : List Value} {σ : am_I} {ρ : am_R} {g : am_J} {τ : am_T} {Q : am_Q} {x0 : Value} {p0 : Nat} {p1 : Nat} (ht : τ.1 p0 = 12) (hs : st.length ≤ 4) : AW (d + 1) 194 4 [x0] (.ref p1 :: .ref p0 :: st) σ ρ g τ Q = AW d 189 0 [.ref p0, .ref p1, am_jk] [] σ ρ g τ (fun r9 σ ρ g τ => AW (d + 1) 194 7 [x0] (r9.toList ++ st) σ ρ g τ Q) := aw_cv m194 d194_4 rfl m189 rfl rfl (by decide) en189 ok189 rfl ht hs
theorem d194_7 : decode cX12_factHere 7 = .ok (.ifCond .eq 7, 3) := by decide +kernel
theorem s194_7 {d : Nat} {st : List Value} {σ : am_I} {ρ : am_R} {g : am_J} {τ : am_T} {Q : am_Q} {x0 : Value} {v : Int32} : AW d 194 7 [x0] (.int v :: st) σ ρ g τ Q = if v = 0 then AW d 194 14 [x0] (st) σ ρ g τ Q else AW d 194 10 [x0] (st) σ ρ g τ Q := aw_br m194 d194_7 rfl rfl rfl
theorem d194_10 : decode cX12_factHere 10 = .ok (.iconst 0, 1) := by decide +kernel
theorem s194_10 {d : Nat} {st : List Value} {σ : am_I} {ρ : am_R} {g : am_J} {τ : am_T} {Q : am_Q} {x0 : Value} : AW d 194 10 [x0] (st) σ ρ g τ Q = AW d 194 11 [x0] (.int 0 :: st) σ ρ g τ Q := aw_lc m194 d194_10 rfl rfl rfl
theorem d194_11 : decode cX12_factHere 11 = .ok (.goto 74, 3) := by decide +kernel
theorem s194_11 {d : Nat} {st : List Value} {σ : am_I} {ρ : am_R} {g : am_J} {τ : am_T} {Q : am_Q} {x0 : Value} : AW d 194 11 [x0] (st) σ ρ g τ Q = AW d 194 85 [x0] (st) σ ρ g τ Q := aw_lc m194 d194_11 rfl rfl rfl
theorem d194_14 : decode cX12_factHere 14 = .ok (.aload_n 0, 1) := by decide +kernel
theorem s194_14 {d : Nat} {st : List Value} {σ : am_I} {ρ : am_R} {g : am_J} {τ : am_T} {Q : am_Q} {v : Nat} : AW d 194 14 [.ref v] (st) σ ρ g τ Q = AW d 194 15 [.ref v] (.ref v :: st) σ ρ g τ Q := aw_lc m194 d194_14 rfl rfl rfl
theorem d194_15 : decode cX12_factHere 15 = .ok (.ldc_w 291, 3) := by decide +kernel
theorem s194_15 {d : Nat} {st : List Value} {σ : am_I} {ρ : am_R} {g : am_J} {τ : am_T} {Q : am_Q} {x0 : Value} : AW d 194 15 [x0] (st) σ ρ g τ Q = AW d 194 18 [x0] (.ref (am_BG + 34) :: st) σ ρ g τ Q := aw_lws m194 d194_15 rfl rfl
theorem d194_18 : decode cX12_factHere 18 = .ok (.invokevirtual 282, 3) := by decide +kernel
theorem s194_18 {d : Nat} {st : List Value} {σ : am_I} {ρ : am_R} {g : am_J} {τ : am_T} {Q : am_Q} {x0 : Value} {p0 : Nat} {p1 : Nat} (ht : τ.1 p0 = 12) (hs : st.length ≤ 4) : AW (d + 1) 194 18 [x0] (.ref p1 :: .ref p0 :: st) σ ρ g τ Q = AW d 189 0 [.ref p0, .ref p1, am_jk] [] σ ρ g τ (fun r9 σ ρ g τ => AW (d + 1) 194 21 [x0] (r9.toList ++ st) σ ρ g τ Q) := aw_cv m194 d194_18 rfl m189 rfl rfl (by decide) en189 ok189 rfl ht hs
theorem d194_21 : decode cX12_factHere 21 = .ok (.ifCond .eq 7, 3) := by decide +kernel
theorem s194_21 {d : Nat} {st : List Value} {σ : am_I} {ρ : am_R} {g : am_J} {τ : am_T} {Q : am_Q} {x0 : Value} {v : Int32} : AW d 194 21 [x0] (.int v :: st) σ ρ g τ Q = if v = 0 then AW d 194 28 [x0] (st) σ ρ g τ Q else AW d 194 24 [x0] (st) σ ρ g τ Q := aw_br m194 d194_21 rfl rfl rfl
theorem d194_24 : decode cX12_factHere 24 = .ok (.iconst 1, 1) := by decide +kernel
theorem s194_24 {d : Nat} {st : List Value} {σ : am_I} {ρ : am_R} {g : am_J} {τ : am_T} {Q : am_Q} {x0 : Value} : AW d 194 24 [x0] (st) σ ρ g τ Q = AW d 194 25 [x0] (.int 1 :: st) σ ρ g τ Q := aw_lc m194 d194_24 rfl rfl rfl
theorem d194_25 : decode cX12_factHere 25 = .ok (.goto 60, 3) := by decide +kernel
theorem s194_25 {d : Nat} {st : List Value} {σ : am_I} {ρ : am_R} {g : am_J} {τ : am_T} {Q : am_Q} {x0 : Value} : AW d 194 25 [x0] (st) σ ρ g τ Q = AW d 194 85 [x0] (st) σ ρ g τ Q := aw_lc m194 d194_25 rfl rfl rfl
theorem d194_28 : decode cX12_factHere 28 = .ok (.aload_n 0, 1) := by decide +kernel
theorem s194_28 {d : Nat} {st : List Value} {σ : am_I} {ρ : am_R} {g : am_J} {τ : am_T} {Q : am_Q} {v : Nat} : AW d 194 28 [.ref v] (st) σ ρ g τ Q = AW d 194 29 [.ref v] (.ref v :: st) σ ρ g τ Q := aw_lc m194 d194_28 rfl rfl rfl
theorem d194_29 : decode cX12_factHere 29 = .ok (.ldc_w 292, 3) := by decide +kernel
theorem s194_29 {d : Nat} {st : List Value} {σ : am_I} {ρ : am_R} {g : am_J} {τ : am_T} {Q : am_Q} {x0 : Value} : AW d 194 29 [x0] (st) σ ρ g τ Q = AW d 194 32 [x0] (.ref (am_BG + 35) :: st) σ ρ g τ Q := aw_lws m194 d194_29 rfl rfl
theorem d194_32 : decode cX12_factHere 32 = .ok (.invokevirtual 282, 3) := by decide +kernel
theorem s194_32 {d : Nat} {st : List Value} {σ : am_I} {ρ : am_R} {g : am_J} {τ : am_T} {Q : am_Q} {x0 : Value} {p0 : Nat} {p1 : Nat} (ht : τ.1 p0 = 12) (hs : st.length ≤ 4) : AW (d + 1) 194 32 [x0] (.ref p1 :: .ref p0 :: st) σ ρ g τ Q = AW d 189 0 [.ref p0, .ref p1, am_jk] [] σ ρ g τ (fun r9 σ ρ g τ => AW (d + 1) 194 35 [x0] (r9.toList ++ st) σ ρ g τ Q) := aw_cv m194 d194_32 rfl m189 rfl rfl (by decide) en189 ok189 rfl ht hs
theorem d194_35 : decode cX12_factHere 35 = .ok (.ifCond .eq 7, 3) := by decide +kernel
theorem s194_35 {d : Nat} {st : List Value} {σ : am_I} {ρ : am_R} {g : am_J} {τ : am_T} {Q : am_Q} {x0 : Value} {v : Int32} : AW d 194 35 [x0] (.int v :: st) σ ρ g τ Q = if v = 0 then AW d 194 42 [x0] (st) σ ρ g τ Q else AW d 194 38 [x0] (st) σ ρ g τ Q := aw_br m194 d194_35 rfl rfl rfl
theorem d194_38 : decode cX12_factHere 38 = .ok (.iconst 2, 1) := by decide +kernel
theorem s194_38 {d : Nat} {st : List Value} {σ : am_I} {ρ : am_R} {g : am_J} {τ : am_T} {Q : am_Q} {x0 : Value} : AW d 194 38 [x0] (st) σ ρ g τ Q = AW d 194 39 [x0] (.int 2 :: st) σ ρ g τ Q := aw_lc m194 d194_38 rfl rfl rfl
theorem d194_39 : decode cX12_factHere 39 = .ok (.goto 46, 3) := by decide +kernel
theorem s194_39 {d : Nat} {st : List Value} {σ : am_I} {ρ : am_R} {g : am_J} {τ : am_T} {Q : am_Q} {x0 : Value} : AW d 194 39 [x0] (st) σ ρ g τ Q = AW d 194 85 [x0] (st) σ ρ g τ Q := aw_lc m194 d194_39 rfl rfl rfl
theorem d194_42 : decode cX12_factHere 42 = .ok (.aload_n 0, 1) := by decide +kernel
theorem s194_42 {d : Nat} {st : List Value} {σ : am_I} {ρ : am_R} {g : am_J} {τ : am_T} {Q : am_Q} {v : Nat} : AW d 194 42 [.ref v] (st) σ ρ g τ Q = AW d 194 43 [.ref v] (.ref v :: st) σ ρ g τ Q := aw_lc m194 d194_42 rfl rfl rfl
theorem d194_43 : decode cX12_factHere 43 = .ok (.ldc_w 293, 3) := by decide +kernel
theorem s194_43 {d : Nat} {st : List Value} {σ : am_I} {ρ : am_R} {g : am_J} {τ : am_T} {Q : am_Q} {x0 : Value} : AW d 194 43 [x0] (st) σ ρ g τ Q = AW d 194 46 [x0] (.ref (am_BG + 36) :: st) σ ρ g τ Q := aw_lws m194 d194_43 rfl rfl
theorem d194_46 : decode cX12_factHere 46 = .ok (.invokevirtual 282, 3) := by decide +kernel
theorem s194_46 {d : Nat} {st : List Value} {σ : am_I} {ρ : am_R} {g : am_J} {τ : am_T} {Q : am_Q} {x0 : Value} {p0 : Nat} {p1 : Nat} (ht : τ.1 p0 = 12) (hs : st.length ≤ 4) : AW (d + 1) 194 46 [x0] (.ref p1 :: .ref p0 :: st) σ ρ g τ Q = AW d 189 0 [.ref p0, .ref p1, am_jk] [] σ ρ g τ (fun r9 σ ρ g τ => AW (d + 1) 194 49 [x0] (r9.toList ++ st) σ ρ g τ Q) := aw_cv m194 d194_46 rfl m189 rfl rfl (by decide) en189 ok189 rfl ht hs
theorem d194_49 : decode cX12_factHere 49 = .ok (.ifCond .eq 7, 3) := by decide +kernel
theorem s194_49 {d : Nat} {st : List Value} {σ : am_I} {ρ : am_R} {g : am_J} {τ : am_T} {Q : am_Q} {x0 : Value} {v : Int32} : AW d 194 49 [x0] (.int v :: st) σ ρ g τ Q = if v = 0 then AW d 194 56 [x0] (st) σ ρ g τ Q else AW d 194 52 [x0] (st) σ ρ g τ Q := aw_br m194 d194_49 rfl rfl rfl
theorem d194_52 : decode cX12_factHere 52 = .ok (.iconst 3, 1) := by decide +kernel
theorem s194_52 {d : Nat} {st : List Value} {σ : am_I} {ρ : am_R} {g : am_J} {τ : am_T} {Q : am_Q} {x0 : Value} : AW d 194 52 [x0] (st) σ ρ g τ Q = AW d 194 53 [x0] (.int 3 :: st) σ ρ g τ Q := aw_lc m194 d194_52 rfl rfl rfl
theorem d194_53 : decode cX12_factHere 53 = .ok (.goto 32, 3) := by decide +kernel
theorem s194_53 {d : Nat} {st : List Value} {σ : am_I} {ρ : am_R} {g : am_J} {τ : am_T} {Q : am_Q} {x0 : Value} : AW d 194 53 [x0] (st) σ ρ g τ Q = AW d 194 85 [x0] (st) σ ρ g τ Q := aw_lc m194 d194_53 rfl rfl rfl
theorem d194_56 : decode cX12_factHere 56 = .ok (.aload_n 0, 1) := by decide +kernel
theorem s194_56 {d : Nat} {st : List Value} {σ : am_I} {ρ : am_R} {g : am_J} {τ : am_T} {Q : am_Q} {v : Nat} : AW d 194 56 [.ref v] (st) σ ρ g τ Q = AW d 194 57 [.ref v] (.ref v :: st) σ ρ g τ Q := aw_lc m194 d194_56 rfl rfl rfl
theorem d194_57 : decode cX12_factHere 57 = .ok (.ldc_w 294, 3) := by decide +kernel
theorem s194_57 {d : Nat} {st : List Value} {σ : am_I} {ρ : am_R} {g : am_J} {τ : am_T} {Q : am_Q} {x0 : Value} : AW d 194 57 [x0] (st) σ ρ g τ Q = AW d 194 60 [x0] (.ref (am_BG + 37) :: st) σ ρ g τ Q := aw_lws m194 d194_57 rfl rfl
theorem d194_60 : decode cX12_factHere 60 = .ok (.invokevirtual 282, 3) := by decide +kernel
theorem s194_60 {d : Nat} {st : List Value} {σ : am_I} {ρ : am_R} {g : am_J} {τ : am_T} {Q : am_Q} {x0 : Value} {p0 : Nat} {p1 : Nat} (ht : τ.1 p0 = 12) (hs : st.length ≤ 4) : AW (d + 1) 194 60 [x0] (.ref p1 :: .ref p0 :: st) σ ρ g τ Q = AW d 189 0 [.ref p0, .ref p1, am_jk] [] σ ρ g τ (fun r9 σ ρ g τ => AW (d + 1) 194 63 [x0] (r9.toList ++ st) σ ρ g τ Q) := aw_cv m194 d194_60 rfl m189 rfl rfl (by decide) en189 ok189 rfl ht hs
theorem d194_63 : decode cX12_factHere 63 = .ok (.ifCond .eq 7, 3) := by decide +kernel
theorem s194_63 {d : Nat} {st : List Value} {σ : am_I} {ρ : am_R} {g : am_J} {τ : am_T} {Q : am_Q} {x0 : Value} {v : Int32} : AW d 194 63 [x0] (.int v :: st) σ ρ g τ Q = if v = 0 then AW d 194 70 [x0] (st) σ ρ g τ Q else AW d 194 66 [x0] (st) σ ρ g τ Q := aw_br m194 d194_63 rfl rfl rfl
theorem d194_66 : decode cX12_factHere 66 = .ok (.iconst 4, 1) := by decide +kernel
theorem s194_66 {d : Nat} {st : List Value} {σ : am_I} {ρ : am_R} {g : am_J} {τ : am_T} {Q : am_Q} {x0 : Value} : AW d 194 66 [x0] (st) σ ρ g τ Q = AW d 194 67 [x0] (.int 4 :: st) σ ρ g τ Q := aw_lc m194 d194_66 rfl rfl rfl
theorem d194_67 : decode cX12_factHere 67 = .ok (.goto 18, 3) := by decide +kernel
theorem s194_67 {d : Nat} {st : List Value} {σ : am_I} {ρ : am_R} {g : am_J} {τ : am_T} {Q : am_Q} {x0 : Value} : AW d 194 67 [x0] (st) σ ρ g τ Q = AW d 194 85 [x0] (st) σ ρ g τ Q := aw_lc m194 d194_67 rfl rfl rfl
theorem d194_70 : decode cX12_factHere 70 = .ok (.aload_n 0, 1) := by decide +kernel
theorem s194_70 {d : Nat} {st : List Value} {σ : am_I} {ρ : am_R} {g : am_J} {τ : am_T} {Q : am_Q} {v : Nat} : AW d 194 70 [.ref v] (st) σ ρ g τ Q = AW d 194 71 [.ref v] (.ref v :: st) σ ρ g τ Q := aw_lc m194 d194_70 rfl rfl rfl
theorem d194_71 : decode cX12_factHere 71 = .ok (.ldc_w 295, 3) := by decide +kernel
theorem s194_71 {d : Nat} {st : List Value} {σ : am_I} {ρ : am_R} {g : am_J} {τ : am_T} {Q : am_Q} {x0 : Value} : AW d 194 71 [x0] (st) σ ρ g τ Q = AW d 194 74 [x0] (.ref (am_BG + 38) :: st) σ ρ g τ Q := aw_lws m194 d194_71 rfl rfl
theorem d194_74 : decode cX12_factHere 74 = .ok (.invokevirtual 282, 3) := by decide +kernel
theorem s194_74 {d : Nat} {st : List Value} {σ : am_I} {ρ : am_R} {g : am_J} {τ : am_T} {Q : am_Q} {x0 : Value} {p0 : Nat} {p1 : Nat} (ht : τ.1 p0 = 12) (hs : st.length ≤ 4) : AW (d + 1) 194 74 [x0] (.ref p1 :: .ref p0 :: st) σ ρ g τ Q = AW d 189 0 [.ref p0, .ref p1, am_jk] [] σ ρ g τ (fun r9 σ ρ g τ => AW (d + 1) 194 77 [x0] (r9.toList ++ st) σ ρ g τ Q) := aw_cv m194 d194_74 rfl m189 rfl rfl (by decide) en189 ok189 rfl ht hs
theorem d194_77 : decode cX12_factHere 77 = .ok (.ifCond .eq 7, 3) := by decide +kernel
theorem s194_77 {d : Nat} {st : List Value} {σ : am_I} {ρ : am_R} {g : am_J} {τ : am_T} {Q : am_Q} {x0 : Value} {v : Int32} : AW d 194 77 [x0] (.int v :: st) σ ρ g τ Q = if v = 0 then AW d 194 84 [x0] (st) σ ρ g τ Q else AW d 194 80 [x0] (st) σ ρ g τ Q := aw_br m194 d194_77 rfl rfl rfl
theorem d194_80 : decode cX12_factHere 80 = .ok (.iconst 5, 1) := by decide +kernel
theorem s194_80 {d : Nat} {st : List Value} {σ : am_I} {ρ : am_R} {g : am_J} {τ : am_T} {Q : am_Q} {x0 : Value} : AW d 194 80 [x0] (st) σ ρ g τ Q = AW d 194 81 [x0] (.int 5 :: st) σ ρ g τ Q := aw_lc m194 d194_80 rfl rfl rfl
theorem d194_81 : decode cX12_factHere 81 = .ok (.goto 4, 3) := by decide +kernel
theorem s194_81 {d : Nat} {st : List Value} {σ : am_I} {ρ : am_R} {g : am_J} {τ : am_T} {Q : am_Q} {x0 : Value} : AW d 194 81 [x0] (st) σ ρ g τ Q = AW d 194 85 [x0] (st) σ ρ g τ Q := aw_lc m194 d194_81 rfl rfl rfl
theorem d194_84 : decode cX12_factHere 84 = .ok (.iconst (-1), 1) := by decide +kernel
theorem s194_84 {d : Nat} {st : List Value} {σ : am_I} {ρ : am_R} {g : am_J} {τ : am_T} {Q : am_Q} {x0 : Value} : AW d 194 84 [x0] (st) σ ρ g τ Q = AW d 194 85 [x0] (.int (-1) :: st) σ ρ g τ Q := aw_lc m194 d194_84 rfl rfl rfl
theorem d194_85 : decode cX12_factHere 85 = .ok (.ireturn, 1) := by decide +kernel
theorem s194_85 {d : Nat} {σ : am_I} {ρ : am_R} {g : am_J} {τ : am_T} {Q : am_Q} {x0 : Value} {v : Int32} : AW d 194 85 [x0] ([.int v]) σ ρ g τ Q = Q (some (.int v)) σ ρ g τ := aw_ri m194 d194_85 rfl
