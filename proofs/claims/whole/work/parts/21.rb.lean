/-! step rows: methods 21 to 41 -/
theorem d21_0 : decode cX3_init 0 = .ok (.aload_n 0, 1) := by decide +kernel
theorem s21_0 {d : Nat} {st : List Value} {σ : am_I} {ρ : am_R} {g : am_J} {τ : am_T} {Q : am_Q} {x1 : Value} {v : Nat} : AW d 21 0 [.ref v, x1] (st) σ ρ g τ Q = AW d 21 1 [.ref v, x1] (.ref v :: st) σ ρ g τ Q := aw_lc m21 d21_0 rfl rfl rfl
theorem s21_0n {d : Nat} {st : List Value} {σ : am_I} {ρ : am_R} {g : am_J} {τ : am_T} {Q : am_Q} {x1 : Value} : AW d 21 0 [.null, x1] (st) σ ρ g τ Q = AW d 21 1 [.null, x1] (.null :: st) σ ρ g τ Q := aw_lc m21 d21_0 rfl rfl rfl
theorem d21_1 : decode cX3_init 1 = .ok (.invokespecial 3, 3) := by decide +kernel
theorem s21_1 {d : Nat} {st : List Value} {σ : am_I} {ρ : am_R} {g : am_J} {τ : am_T} {Q : am_Q} {x0 x1 : Value} {a : Nat} (hs : st.length ≤ 4) : AW d 21 1 [x0, x1] (.ref a :: st) σ ρ g τ Q = AW d 21 4 [x0, x1] (st) σ ρ g τ Q := aw_oin m21 d21_1 rfl rfl hs
theorem d21_4 : decode cX3_init 4 = .ok (.aload_n 0, 1) := by decide +kernel
theorem s21_4 {d : Nat} {st : List Value} {σ : am_I} {ρ : am_R} {g : am_J} {τ : am_T} {Q : am_Q} {x1 : Value} {v : Nat} : AW d 21 4 [.ref v, x1] (st) σ ρ g τ Q = AW d 21 5 [.ref v, x1] (.ref v :: st) σ ρ g τ Q := aw_lc m21 d21_4 rfl rfl rfl
theorem s21_4n {d : Nat} {st : List Value} {σ : am_I} {ρ : am_R} {g : am_J} {τ : am_T} {Q : am_Q} {x1 : Value} : AW d 21 4 [.null, x1] (st) σ ρ g τ Q = AW d 21 5 [.null, x1] (.null :: st) σ ρ g τ Q := aw_lc m21 d21_4 rfl rfl rfl
theorem d21_5 : decode cX3_init 5 = .ok (.iconst 0, 1) := by decide +kernel
theorem s21_5 {d : Nat} {st : List Value} {σ : am_I} {ρ : am_R} {g : am_J} {τ : am_T} {Q : am_Q} {x0 x1 : Value} : AW d 21 5 [x0, x1] (st) σ ρ g τ Q = AW d 21 6 [x0, x1] (.int 0 :: st) σ ρ g τ Q := aw_lc m21 d21_5 rfl rfl rfl
theorem d21_6 : decode cX3_init 6 = .ok (.putfield 9, 3) := by decide +kernel
theorem s21_6 {d : Nat} {st : List Value} {σ : am_I} {ρ : am_R} {g : am_J} {τ : am_T} {Q : am_Q} {x0 x1 : Value} {a : Nat} {v : Int32} (ht : τ.1 a = 3) : AW d 21 6 [x0, x1] (.int v :: .ref a :: st) σ ρ g τ Q = AW d 21 9 [x0, x1] (st) (am_u σ a 0 v) ρ g τ Q := aw_pi m21 d21_6 rfl rfl (Or.inl rfl) rfl ht
theorem d21_9 : decode cX3_init 9 = .ok (.aload_n 0, 1) := by decide +kernel
theorem s21_9 {d : Nat} {st : List Value} {σ : am_I} {ρ : am_R} {g : am_J} {τ : am_T} {Q : am_Q} {x1 : Value} {v : Nat} : AW d 21 9 [.ref v, x1] (st) σ ρ g τ Q = AW d 21 10 [.ref v, x1] (.ref v :: st) σ ρ g τ Q := aw_lc m21 d21_9 rfl rfl rfl
theorem s21_9n {d : Nat} {st : List Value} {σ : am_I} {ρ : am_R} {g : am_J} {τ : am_T} {Q : am_Q} {x1 : Value} : AW d 21 9 [.null, x1] (st) σ ρ g τ Q = AW d 21 10 [.null, x1] (.null :: st) σ ρ g τ Q := aw_lc m21 d21_9 rfl rfl rfl
theorem d21_10 : decode cX3_init 10 = .ok (.iconst 0, 1) := by decide +kernel
theorem s21_10 {d : Nat} {st : List Value} {σ : am_I} {ρ : am_R} {g : am_J} {τ : am_T} {Q : am_Q} {x0 x1 : Value} : AW d 21 10 [x0, x1] (st) σ ρ g τ Q = AW d 21 11 [x0, x1] (.int 0 :: st) σ ρ g τ Q := aw_lc m21 d21_10 rfl rfl rfl
theorem d21_11 : decode cX3_init 11 = .ok (.putfield 15, 3) := by decide +kernel
theorem s21_11 {d : Nat} {st : List Value} {σ : am_I} {ρ : am_R} {g : am_J} {τ : am_T} {Q : am_Q} {x0 x1 : Value} {a : Nat} {v : Int32} (ht : τ.1 a = 3) : AW d 21 11 [x0, x1] (.int v :: .ref a :: st) σ ρ g τ Q = AW d 21 14 [x0, x1] (st) (am_u σ a 1 v) ρ g τ Q := aw_pi m21 d21_11 rfl rfl (Or.inl rfl) rfl ht
theorem d21_14 : decode cX3_init 14 = .ok (.aload_n 0, 1) := by decide +kernel
theorem s21_14 {d : Nat} {st : List Value} {σ : am_I} {ρ : am_R} {g : am_J} {τ : am_T} {Q : am_Q} {x1 : Value} {v : Nat} : AW d 21 14 [.ref v, x1] (st) σ ρ g τ Q = AW d 21 15 [.ref v, x1] (.ref v :: st) σ ρ g τ Q := aw_lc m21 d21_14 rfl rfl rfl
theorem s21_14n {d : Nat} {st : List Value} {σ : am_I} {ρ : am_R} {g : am_J} {τ : am_T} {Q : am_Q} {x1 : Value} : AW d 21 14 [.null, x1] (st) σ ρ g τ Q = AW d 21 15 [.null, x1] (.null :: st) σ ρ g τ Q := aw_lc m21 d21_14 rfl rfl rfl
theorem d21_15 : decode cX3_init 15 = .ok (.iconst 3, 1) := by decide +kernel
theorem s21_15 {d : Nat} {st : List Value} {σ : am_I} {ρ : am_R} {g : am_J} {τ : am_T} {Q : am_Q} {x0 x1 : Value} : AW d 21 15 [x0, x1] (st) σ ρ g τ Q = AW d 21 16 [x0, x1] (.int 3 :: st) σ ρ g τ Q := aw_lc m21 d21_15 rfl rfl rfl
theorem d21_16 : decode cX3_init 16 = .ok (.newarray .int, 2) := by decide +kernel
theorem s21_16 {d : Nat} {st : List Value} {σ : am_I} {ρ : am_R} {g : am_J} {τ : am_T} {Q : am_Q} {x0 x1 : Value} {j : Int32} (hj : ¬ j < 0 ∧ j.toNatClampNeg ≤ 10000) : AW d 21 16 [x0, x1] (.int j :: st) σ ρ g τ Q = AW d 21 18 [x0, x1] (.ref τ.2.2.1 :: st) (am_new 15 j.toNatClampNeg σ ρ g τ).1 (am_new 15 j.toNatClampNeg σ ρ g τ).2.1 (am_new 15 j.toNatClampNeg σ ρ g τ).2.2.1 (am_new 15 j.toNatClampNeg σ ρ g τ).2.2.2 Q := aw_nwa m21 d21_16 rfl rfl (by decide) hj
theorem d21_18 : decode cX3_init 18 = .ok (.putfield 18, 3) := by decide +kernel
theorem s21_18 {d : Nat} {st : List Value} {σ : am_I} {ρ : am_R} {g : am_J} {τ : am_T} {Q : am_Q} {x0 x1 : Value} {a b : Nat} (ht : τ.1 a = 3) : AW d 21 18 [x0, x1] (.ref b :: .ref a :: st) σ ρ g τ Q = AW d 21 21 [x0, x1] (st) σ (am_u ρ a 2 (some b)) g τ Q := aw_pr m21 d21_18 rfl rfl (Or.inr ⟨rfl, rfl⟩) rfl ht
theorem s21_18n {d : Nat} {st : List Value} {σ : am_I} {ρ : am_R} {g : am_J} {τ : am_T} {Q : am_Q} {x0 x1 : Value} {a : Nat} (ht : τ.1 a = 3) : AW d 21 18 [x0, x1] (.null :: .ref a :: st) σ ρ g τ Q = AW d 21 21 [x0, x1] (st) σ (am_u ρ a 2 none) g τ Q := aw_pn m21 d21_18 rfl rfl (Or.inr ⟨rfl, rfl⟩) rfl ht
theorem d21_21 : decode cX3_init 21 = .ok (.aload_n 0, 1) := by decide +kernel
theorem s21_21 {d : Nat} {st : List Value} {σ : am_I} {ρ : am_R} {g : am_J} {τ : am_T} {Q : am_Q} {x1 : Value} {v : Nat} : AW d 21 21 [.ref v, x1] (st) σ ρ g τ Q = AW d 21 22 [.ref v, x1] (.ref v :: st) σ ρ g τ Q := aw_lc m21 d21_21 rfl rfl rfl
theorem s21_21n {d : Nat} {st : List Value} {σ : am_I} {ρ : am_R} {g : am_J} {τ : am_T} {Q : am_Q} {x1 : Value} : AW d 21 21 [.null, x1] (st) σ ρ g τ Q = AW d 21 22 [.null, x1] (.null :: st) σ ρ g τ Q := aw_lc m21 d21_21 rfl rfl rfl
theorem d21_22 : decode cX3_init 22 = .ok (.bipush 12, 2) := by decide +kernel
theorem s21_22 {d : Nat} {st : List Value} {σ : am_I} {ρ : am_R} {g : am_J} {τ : am_T} {Q : am_Q} {x0 x1 : Value} : AW d 21 22 [x0, x1] (st) σ ρ g τ Q = AW d 21 24 [x0, x1] (.int 12 :: st) σ ρ g τ Q := aw_lc m21 d21_22 rfl rfl rfl
theorem d21_24 : decode cX3_init 24 = .ok (.newarray .int, 2) := by decide +kernel
theorem s21_24 {d : Nat} {st : List Value} {σ : am_I} {ρ : am_R} {g : am_J} {τ : am_T} {Q : am_Q} {x0 x1 : Value} {j : Int32} (hj : ¬ j < 0 ∧ j.toNatClampNeg ≤ 10000) : AW d 21 24 [x0, x1] (.int j :: st) σ ρ g τ Q = AW d 21 26 [x0, x1] (.ref τ.2.2.1 :: st) (am_new 15 j.toNatClampNeg σ ρ g τ).1 (am_new 15 j.toNatClampNeg σ ρ g τ).2.1 (am_new 15 j.toNatClampNeg σ ρ g τ).2.2.1 (am_new 15 j.toNatClampNeg σ ρ g τ).2.2.2 Q := aw_nwa m21 d21_24 rfl rfl (by decide) hj
theorem d21_26 : decode cX3_init 26 = .ok (.putfield 22, 3) := by decide +kernel
theorem s21_26 {d : Nat} {st : List Value} {σ : am_I} {ρ : am_R} {g : am_J} {τ : am_T} {Q : am_Q} {x0 x1 : Value} {a b : Nat} (ht : τ.1 a = 3) : AW d 21 26 [x0, x1] (.ref b :: .ref a :: st) σ ρ g τ Q = AW d 21 29 [x0, x1] (st) σ (am_u ρ a 3 (some b)) g τ Q := aw_pr m21 d21_26 rfl rfl (Or.inr ⟨rfl, rfl⟩) rfl ht
theorem s21_26n {d : Nat} {st : List Value} {σ : am_I} {ρ : am_R} {g : am_J} {τ : am_T} {Q : am_Q} {x0 x1 : Value} {a : Nat} (ht : τ.1 a = 3) : AW d 21 26 [x0, x1] (.null :: .ref a :: st) σ ρ g τ Q = AW d 21 29 [x0, x1] (st) σ (am_u ρ a 3 none) g τ Q := aw_pn m21 d21_26 rfl rfl (Or.inr ⟨rfl, rfl⟩) rfl ht
theorem d21_29 : decode cX3_init 29 = .ok (.aload_n 0, 1) := by decide +kernel
theorem s21_29 {d : Nat} {st : List Value} {σ : am_I} {ρ : am_R} {g : am_J} {τ : am_T} {Q : am_Q} {x1 : Value} {v : Nat} : AW d 21 29 [.ref v, x1] (st) σ ρ g τ Q = AW d 21 30 [.ref v, x1] (.ref v :: st) σ ρ g τ Q := aw_lc m21 d21_29 rfl rfl rfl
theorem s21_29n {d : Nat} {st : List Value} {σ : am_I} {ρ : am_R} {g : am_J} {τ : am_T} {Q : am_Q} {x1 : Value} : AW d 21 29 [.null, x1] (st) σ ρ g τ Q = AW d 21 30 [.null, x1] (.null :: st) σ ρ g τ Q := aw_lc m21 d21_29 rfl rfl rfl
theorem d21_30 : decode cX3_init 30 = .ok (.iconst 5, 1) := by decide +kernel
theorem s21_30 {d : Nat} {st : List Value} {σ : am_I} {ρ : am_R} {g : am_J} {τ : am_T} {Q : am_Q} {x0 x1 : Value} : AW d 21 30 [x0, x1] (st) σ ρ g τ Q = AW d 21 31 [x0, x1] (.int 5 :: st) σ ρ g τ Q := aw_lc m21 d21_30 rfl rfl rfl
theorem d21_31 : decode cX3_init 31 = .ok (.newarray .int, 2) := by decide +kernel
theorem s21_31 {d : Nat} {st : List Value} {σ : am_I} {ρ : am_R} {g : am_J} {τ : am_T} {Q : am_Q} {x0 x1 : Value} {j : Int32} (hj : ¬ j < 0 ∧ j.toNatClampNeg ≤ 10000) : AW d 21 31 [x0, x1] (.int j :: st) σ ρ g τ Q = AW d 21 33 [x0, x1] (.ref τ.2.2.1 :: st) (am_new 15 j.toNatClampNeg σ ρ g τ).1 (am_new 15 j.toNatClampNeg σ ρ g τ).2.1 (am_new 15 j.toNatClampNeg σ ρ g τ).2.2.1 (am_new 15 j.toNatClampNeg σ ρ g τ).2.2.2 Q := aw_nwa m21 d21_31 rfl rfl (by decide) hj
theorem d21_33 : decode cX3_init 33 = .ok (.putfield 25, 3) := by decide +kernel
theorem s21_33 {d : Nat} {st : List Value} {σ : am_I} {ρ : am_R} {g : am_J} {τ : am_T} {Q : am_Q} {x0 x1 : Value} {a b : Nat} (ht : τ.1 a = 3) : AW d 21 33 [x0, x1] (.ref b :: .ref a :: st) σ ρ g τ Q = AW d 21 36 [x0, x1] (st) σ (am_u ρ a 4 (some b)) g τ Q := aw_pr m21 d21_33 rfl rfl (Or.inr ⟨rfl, rfl⟩) rfl ht
theorem s21_33n {d : Nat} {st : List Value} {σ : am_I} {ρ : am_R} {g : am_J} {τ : am_T} {Q : am_Q} {x0 x1 : Value} {a : Nat} (ht : τ.1 a = 3) : AW d 21 33 [x0, x1] (.null :: .ref a :: st) σ ρ g τ Q = AW d 21 36 [x0, x1] (st) σ (am_u ρ a 4 none) g τ Q := aw_pn m21 d21_33 rfl rfl (Or.inr ⟨rfl, rfl⟩) rfl ht
theorem d21_36 : decode cX3_init 36 = .ok (.aload_n 0, 1) := by decide +kernel
theorem s21_36 {d : Nat} {st : List Value} {σ : am_I} {ρ : am_R} {g : am_J} {τ : am_T} {Q : am_Q} {x1 : Value} {v : Nat} : AW d 21 36 [.ref v, x1] (st) σ ρ g τ Q = AW d 21 37 [.ref v, x1] (.ref v :: st) σ ρ g τ Q := aw_lc m21 d21_36 rfl rfl rfl
theorem s21_36n {d : Nat} {st : List Value} {σ : am_I} {ρ : am_R} {g : am_J} {τ : am_T} {Q : am_Q} {x1 : Value} : AW d 21 36 [.null, x1] (st) σ ρ g τ Q = AW d 21 37 [.null, x1] (.null :: st) σ ρ g τ Q := aw_lc m21 d21_36 rfl rfl rfl
theorem d21_37 : decode cX3_init 37 = .ok (.bipush 8, 2) := by decide +kernel
theorem s21_37 {d : Nat} {st : List Value} {σ : am_I} {ρ : am_R} {g : am_J} {τ : am_T} {Q : am_Q} {x0 x1 : Value} : AW d 21 37 [x0, x1] (st) σ ρ g τ Q = AW d 21 39 [x0, x1] (.int 8 :: st) σ ρ g τ Q := aw_lc m21 d21_37 rfl rfl rfl
theorem d21_39 : decode cX3_init 39 = .ok (.anewarray 28, 3) := by decide +kernel
theorem s21_39 {d : Nat} {st : List Value} {σ : am_I} {ρ : am_R} {g : am_J} {τ : am_T} {Q : am_Q} {x0 x1 : Value} {j : Int32} (hj : ¬ j < 0 ∧ j.toNatClampNeg ≤ 10000) : AW d 21 39 [x0, x1] (.int j :: st) σ ρ g τ Q = AW d 21 42 [x0, x1] (.ref τ.2.2.1 :: st) (am_new 20 j.toNatClampNeg σ ρ g τ).1 (am_new 20 j.toNatClampNeg σ ρ g τ).2.1 (am_new 20 j.toNatClampNeg σ ρ g τ).2.2.1 (am_new 20 j.toNatClampNeg σ ρ g τ).2.2.2 Q := aw_ana m21 d21_39 rfl rfl rfl (by decide) hj
theorem d21_42 : decode cX3_init 42 = .ok (.putfield 30, 3) := by decide +kernel
theorem s21_42 {d : Nat} {st : List Value} {σ : am_I} {ρ : am_R} {g : am_J} {τ : am_T} {Q : am_Q} {x0 x1 : Value} {a b : Nat} (ht : τ.1 a = 3) : AW d 21 42 [x0, x1] (.ref b :: .ref a :: st) σ ρ g τ Q = AW d 21 45 [x0, x1] (st) σ (am_u ρ a 5 (some b)) g τ Q := aw_pr m21 d21_42 rfl rfl (Or.inr ⟨rfl, rfl⟩) rfl ht
theorem s21_42n {d : Nat} {st : List Value} {σ : am_I} {ρ : am_R} {g : am_J} {τ : am_T} {Q : am_Q} {x0 x1 : Value} {a : Nat} (ht : τ.1 a = 3) : AW d 21 42 [x0, x1] (.null :: .ref a :: st) σ ρ g τ Q = AW d 21 45 [x0, x1] (st) σ (am_u ρ a 5 none) g τ Q := aw_pn m21 d21_42 rfl rfl (Or.inr ⟨rfl, rfl⟩) rfl ht
theorem d21_45 : decode cX3_init 45 = .ok (.aload_n 0, 1) := by decide +kernel
theorem s21_45 {d : Nat} {st : List Value} {σ : am_I} {ρ : am_R} {g : am_J} {τ : am_T} {Q : am_Q} {x1 : Value} {v : Nat} : AW d 21 45 [.ref v, x1] (st) σ ρ g τ Q = AW d 21 46 [.ref v, x1] (.ref v :: st) σ ρ g τ Q := aw_lc m21 d21_45 rfl rfl rfl
theorem s21_45n {d : Nat} {st : List Value} {σ : am_I} {ρ : am_R} {g : am_J} {τ : am_T} {Q : am_Q} {x1 : Value} : AW d 21 45 [.null, x1] (st) σ ρ g τ Q = AW d 21 46 [.null, x1] (.null :: st) σ ρ g τ Q := aw_lc m21 d21_45 rfl rfl rfl
theorem d21_46 : decode cX3_init 46 = .ok (.iconst 0, 1) := by decide +kernel
theorem s21_46 {d : Nat} {st : List Value} {σ : am_I} {ρ : am_R} {g : am_J} {τ : am_T} {Q : am_Q} {x0 x1 : Value} : AW d 21 46 [x0, x1] (st) σ ρ g τ Q = AW d 21 47 [x0, x1] (.int 0 :: st) σ ρ g τ Q := aw_lc m21 d21_46 rfl rfl rfl
theorem d21_47 : decode cX3_init 47 = .ok (.putfield 34, 3) := by decide +kernel
theorem s21_47 {d : Nat} {st : List Value} {σ : am_I} {ρ : am_R} {g : am_J} {τ : am_T} {Q : am_Q} {x0 x1 : Value} {a : Nat} {v : Int32} (ht : τ.1 a = 3) : AW d 21 47 [x0, x1] (.int v :: .ref a :: st) σ ρ g τ Q = AW d 21 50 [x0, x1] (st) (am_u σ a 6 v) ρ g τ Q := aw_pi m21 d21_47 rfl rfl (Or.inl rfl) rfl ht
theorem d21_50 : decode cX3_init 50 = .ok (.aload_n 0, 1) := by decide +kernel
theorem s21_50 {d : Nat} {st : List Value} {σ : am_I} {ρ : am_R} {g : am_J} {τ : am_T} {Q : am_Q} {x1 : Value} {v : Nat} : AW d 21 50 [.ref v, x1] (st) σ ρ g τ Q = AW d 21 51 [.ref v, x1] (.ref v :: st) σ ρ g τ Q := aw_lc m21 d21_50 rfl rfl rfl
theorem s21_50n {d : Nat} {st : List Value} {σ : am_I} {ρ : am_R} {g : am_J} {τ : am_T} {Q : am_Q} {x1 : Value} : AW d 21 50 [.null, x1] (st) σ ρ g τ Q = AW d 21 51 [.null, x1] (.null :: st) σ ρ g τ Q := aw_lc m21 d21_50 rfl rfl rfl
theorem d21_51 : decode cX3_init 51 = .ok (.bipush 16, 2) := by decide +kernel
theorem s21_51 {d : Nat} {st : List Value} {σ : am_I} {ρ : am_R} {g : am_J} {τ : am_T} {Q : am_Q} {x0 x1 : Value} : AW d 21 51 [x0, x1] (st) σ ρ g τ Q = AW d 21 53 [x0, x1] (.int 16 :: st) σ ρ g τ Q := aw_lc m21 d21_51 rfl rfl rfl
theorem d21_53 : decode cX3_init 53 = .ok (.anewarray 37, 3) := by decide +kernel
theorem s21_53 {d : Nat} {st : List Value} {σ : am_I} {ρ : am_R} {g : am_J} {τ : am_T} {Q : am_Q} {x0 x1 : Value} {j : Int32} (hj : ¬ j < 0 ∧ j.toNatClampNeg ≤ 10000) : AW d 21 53 [x0, x1] (.int j :: st) σ ρ g τ Q = AW d 21 56 [x0, x1] (.ref τ.2.2.1 :: st) (am_new 18 j.toNatClampNeg σ ρ g τ).1 (am_new 18 j.toNatClampNeg σ ρ g τ).2.1 (am_new 18 j.toNatClampNeg σ ρ g τ).2.2.1 (am_new 18 j.toNatClampNeg σ ρ g τ).2.2.2 Q := aw_ana m21 d21_53 rfl rfl rfl (by decide) hj
theorem d21_56 : decode cX3_init 56 = .ok (.putfield 39, 3) := by decide +kernel
theorem s21_56 {d : Nat} {st : List Value} {σ : am_I} {ρ : am_R} {g : am_J} {τ : am_T} {Q : am_Q} {x0 x1 : Value} {a b : Nat} (ht : τ.1 a = 3) : AW d 21 56 [x0, x1] (.ref b :: .ref a :: st) σ ρ g τ Q = AW d 21 59 [x0, x1] (st) σ (am_u ρ a 7 (some b)) g τ Q := aw_pr m21 d21_56 rfl rfl (Or.inr ⟨rfl, rfl⟩) rfl ht
theorem s21_56n {d : Nat} {st : List Value} {σ : am_I} {ρ : am_R} {g : am_J} {τ : am_T} {Q : am_Q} {x0 x1 : Value} {a : Nat} (ht : τ.1 a = 3) : AW d 21 56 [x0, x1] (.null :: .ref a :: st) σ ρ g τ Q = AW d 21 59 [x0, x1] (st) σ (am_u ρ a 7 none) g τ Q := aw_pn m21 d21_56 rfl rfl (Or.inr ⟨rfl, rfl⟩) rfl ht
theorem d21_59 : decode cX3_init 59 = .ok (.aload_n 0, 1) := by decide +kernel
theorem s21_59 {d : Nat} {st : List Value} {σ : am_I} {ρ : am_R} {g : am_J} {τ : am_T} {Q : am_Q} {x1 : Value} {v : Nat} : AW d 21 59 [.ref v, x1] (st) σ ρ g τ Q = AW d 21 60 [.ref v, x1] (.ref v :: st) σ ρ g τ Q := aw_lc m21 d21_59 rfl rfl rfl
theorem s21_59n {d : Nat} {st : List Value} {σ : am_I} {ρ : am_R} {g : am_J} {τ : am_T} {Q : am_Q} {x1 : Value} : AW d 21 59 [.null, x1] (st) σ ρ g τ Q = AW d 21 60 [.null, x1] (.null :: st) σ ρ g τ Q := aw_lc m21 d21_59 rfl rfl rfl
theorem d21_60 : decode cX3_init 60 = .ok (.iconst 0, 1) := by decide +kernel
theorem s21_60 {d : Nat} {st : List Value} {σ : am_I} {ρ : am_R} {g : am_J} {τ : am_T} {Q : am_Q} {x0 x1 : Value} : AW d 21 60 [x0, x1] (st) σ ρ g τ Q = AW d 21 61 [x0, x1] (.int 0 :: st) σ ρ g τ Q := aw_lc m21 d21_60 rfl rfl rfl
theorem d21_61 : decode cX3_init 61 = .ok (.putfield 43, 3) := by decide +kernel
theorem s21_61 {d : Nat} {st : List Value} {σ : am_I} {ρ : am_R} {g : am_J} {τ : am_T} {Q : am_Q} {x0 x1 : Value} {a : Nat} {v : Int32} (ht : τ.1 a = 3) : AW d 21 61 [x0, x1] (.int v :: .ref a :: st) σ ρ g τ Q = AW d 21 64 [x0, x1] (st) (am_u σ a 8 v) ρ g τ Q := aw_pi m21 d21_61 rfl rfl (Or.inl rfl) rfl ht
theorem d21_64 : decode cX3_init 64 = .ok (.aload_n 0, 1) := by decide +kernel
theorem s21_64 {d : Nat} {st : List Value} {σ : am_I} {ρ : am_R} {g : am_J} {τ : am_T} {Q : am_Q} {x1 : Value} {v : Nat} : AW d 21 64 [.ref v, x1] (st) σ ρ g τ Q = AW d 21 65 [.ref v, x1] (.ref v :: st) σ ρ g τ Q := aw_lc m21 d21_64 rfl rfl rfl
theorem s21_64n {d : Nat} {st : List Value} {σ : am_I} {ρ : am_R} {g : am_J} {τ : am_T} {Q : am_Q} {x1 : Value} : AW d 21 64 [.null, x1] (st) σ ρ g τ Q = AW d 21 65 [.null, x1] (.null :: st) σ ρ g τ Q := aw_lc m21 d21_64 rfl rfl rfl
theorem d21_65 : decode cX3_init 65 = .ok (.new 46, 3) := by decide +kernel
theorem s21_65 {d : Nat} {st : List Value} {σ : am_I} {ρ : am_R} {g : am_J} {τ : am_T} {Q : am_Q} {x0 x1 : Value} : AW d 21 65 [x0, x1] (st) σ ρ g τ Q = AW d 21 68 [x0, x1] (.ref τ.2.2.1 :: st) (am_new 9 2 σ ρ g τ).1 (am_new 9 2 σ ρ g τ).2.1 (am_new 9 2 σ ρ g τ).2.2.1 (am_new 9 2 σ ρ g τ).2.2.2 Q := aw_new m21 d21_65 rfl rfl (by decide)
theorem d21_68 : decode cX3_init 68 = .ok (.dup, 1) := by decide +kernel
theorem s21_68 {d : Nat} {st : List Value} {σ : am_I} {ρ : am_R} {g : am_J} {τ : am_T} {Q : am_Q} {x0 x1 : Value} {v : Int32} : AW d 21 68 [x0, x1] (.int v :: st) σ ρ g τ Q = AW d 21 69 [x0, x1] (.int v :: .int v :: st) σ ρ g τ Q := aw_lc m21 d21_68 rfl rfl rfl
theorem s21_68r {d : Nat} {st : List Value} {σ : am_I} {ρ : am_R} {g : am_J} {τ : am_T} {Q : am_Q} {x0 x1 : Value} {v : Nat} : AW d 21 68 [x0, x1] (.ref v :: st) σ ρ g τ Q = AW d 21 69 [x0, x1] (.ref v :: .ref v :: st) σ ρ g τ Q := aw_lc m21 d21_68 rfl rfl rfl
theorem d21_69 : decode cX3_init 69 = .ok (.iconst 0, 1) := by decide +kernel
theorem s21_69 {d : Nat} {st : List Value} {σ : am_I} {ρ : am_R} {g : am_J} {τ : am_T} {Q : am_Q} {x0 x1 : Value} : AW d 21 69 [x0, x1] (st) σ ρ g τ Q = AW d 21 70 [x0, x1] (.int 0 :: st) σ ρ g τ Q := aw_lc m21 d21_69 rfl rfl rfl
theorem d21_70 : decode cX3_init 70 = .ok (.iconst 0, 1) := by decide +kernel
theorem s21_70 {d : Nat} {st : List Value} {σ : am_I} {ρ : am_R} {g : am_J} {τ : am_T} {Q : am_Q} {x0 x1 : Value} : AW d 21 70 [x0, x1] (st) σ ρ g τ Q = AW d 21 71 [x0, x1] (.int 0 :: st) σ ρ g τ Q := aw_lc m21 d21_70 rfl rfl rfl
theorem d21_71 : decode cX3_init 71 = .ok (.anewarray 48, 3) := by decide +kernel
theorem s21_71 {d : Nat} {st : List Value} {σ : am_I} {ρ : am_R} {g : am_J} {τ : am_T} {Q : am_Q} {x0 x1 : Value} {j : Int32} (hj : ¬ j < 0 ∧ j.toNatClampNeg ≤ 10000) : AW d 21 71 [x0, x1] (.int j :: st) σ ρ g τ Q = AW d 21 74 [x0, x1] (.ref τ.2.2.1 :: st) (am_new 19 j.toNatClampNeg σ ρ g τ).1 (am_new 19 j.toNatClampNeg σ ρ g τ).2.1 (am_new 19 j.toNatClampNeg σ ρ g τ).2.2.1 (am_new 19 j.toNatClampNeg σ ρ g τ).2.2.2 Q := aw_ana m21 d21_71 rfl rfl rfl (by decide) hj
theorem d21_74 : decode cX3_init 74 = .ok (.invokespecial 50, 3) := by decide +kernel
theorem s21_74 {d : Nat} {st : List Value} {σ : am_I} {ρ : am_R} {g : am_J} {τ : am_T} {Q : am_Q} {x0 x1 : Value} {p0 : Nat} {p1 : Int32} {p2 : Nat} (hs : st.length ≤ 4) : AW (d + 1) 21 74 [x0, x1] (.ref p2 :: .int p1 :: .ref p0 :: st) σ ρ g τ Q = AW d 68 0 [.ref p0, .int p1, .ref p2] [] σ ρ g τ (fun r9 σ ρ g τ => AW (d + 1) 21 77 [x0, x1] (r9.toList ++ st) σ ρ g τ Q) := aw_ci m21 d21_74 rfl rfl en68 ok68 rfl hs
theorem d21_77 : decode cX3_init 77 = .ok (.putfield 53, 3) := by decide +kernel
theorem s21_77 {d : Nat} {st : List Value} {σ : am_I} {ρ : am_R} {g : am_J} {τ : am_T} {Q : am_Q} {x0 x1 : Value} {a b : Nat} (ht : τ.1 a = 3) : AW d 21 77 [x0, x1] (.ref b :: .ref a :: st) σ ρ g τ Q = AW d 21 80 [x0, x1] (st) σ (am_u ρ a 9 (some b)) g τ Q := aw_pr m21 d21_77 rfl rfl (Or.inr ⟨rfl, rfl⟩) rfl ht
theorem s21_77n {d : Nat} {st : List Value} {σ : am_I} {ρ : am_R} {g : am_J} {τ : am_T} {Q : am_Q} {x0 x1 : Value} {a : Nat} (ht : τ.1 a = 3) : AW d 21 77 [x0, x1] (.null :: .ref a :: st) σ ρ g τ Q = AW d 21 80 [x0, x1] (st) σ (am_u ρ a 9 none) g τ Q := aw_pn m21 d21_77 rfl rfl (Or.inr ⟨rfl, rfl⟩) rfl ht
theorem d21_80 : decode cX3_init 80 = .ok (.aload_n 0, 1) := by decide +kernel
theorem s21_80 {d : Nat} {st : List Value} {σ : am_I} {ρ : am_R} {g : am_J} {τ : am_T} {Q : am_Q} {x1 : Value} {v : Nat} : AW d 21 80 [.ref v, x1] (st) σ ρ g τ Q = AW d 21 81 [.ref v, x1] (.ref v :: st) σ ρ g τ Q := aw_lc m21 d21_80 rfl rfl rfl
theorem s21_80n {d : Nat} {st : List Value} {σ : am_I} {ρ : am_R} {g : am_J} {τ : am_T} {Q : am_Q} {x1 : Value} : AW d 21 80 [.null, x1] (st) σ ρ g τ Q = AW d 21 81 [.null, x1] (.null :: st) σ ρ g τ Q := aw_lc m21 d21_80 rfl rfl rfl
theorem d21_81 : decode cX3_init 81 = .ok (.bipush 8, 2) := by decide +kernel
theorem s21_81 {d : Nat} {st : List Value} {σ : am_I} {ρ : am_R} {g : am_J} {τ : am_T} {Q : am_Q} {x0 x1 : Value} : AW d 21 81 [x0, x1] (st) σ ρ g τ Q = AW d 21 83 [x0, x1] (.int 8 :: st) σ ρ g τ Q := aw_lc m21 d21_81 rfl rfl rfl
theorem d21_83 : decode cX3_init 83 = .ok (.anewarray 46, 3) := by decide +kernel
theorem s21_83 {d : Nat} {st : List Value} {σ : am_I} {ρ : am_R} {g : am_J} {τ : am_T} {Q : am_Q} {x0 x1 : Value} {j : Int32} (hj : ¬ j < 0 ∧ j.toNatClampNeg ≤ 10000) : AW d 21 83 [x0, x1] (.int j :: st) σ ρ g τ Q = AW d 21 86 [x0, x1] (.ref τ.2.2.1 :: st) (am_new 21 j.toNatClampNeg σ ρ g τ).1 (am_new 21 j.toNatClampNeg σ ρ g τ).2.1 (am_new 21 j.toNatClampNeg σ ρ g τ).2.2.1 (am_new 21 j.toNatClampNeg σ ρ g τ).2.2.2 Q := aw_ana m21 d21_83 rfl rfl rfl (by decide) hj
theorem d21_86 : decode cX3_init 86 = .ok (.putfield 57, 3) := by decide +kernel
theorem s21_86 {d : Nat} {st : List Value} {σ : am_I} {ρ : am_R} {g : am_J} {τ : am_T} {Q : am_Q} {x0 x1 : Value} {a b : Nat} (ht : τ.1 a = 3) : AW d 21 86 [x0, x1] (.ref b :: .ref a :: st) σ ρ g τ Q = AW d 21 89 [x0, x1] (st) σ (am_u ρ a 10 (some b)) g τ Q := aw_pr m21 d21_86 rfl rfl (Or.inr ⟨rfl, rfl⟩) rfl ht
theorem s21_86n {d : Nat} {st : List Value} {σ : am_I} {ρ : am_R} {g : am_J} {τ : am_T} {Q : am_Q} {x0 x1 : Value} {a : Nat} (ht : τ.1 a = 3) : AW d 21 86 [x0, x1] (.null :: .ref a :: st) σ ρ g τ Q = AW d 21 89 [x0, x1] (st) σ (am_u ρ a 10 none) g τ Q := aw_pn m21 d21_86 rfl rfl (Or.inr ⟨rfl, rfl⟩) rfl ht
theorem d21_89 : decode cX3_init 89 = .ok (.aload_n 0, 1) := by decide +kernel
theorem s21_89 {d : Nat} {st : List Value} {σ : am_I} {ρ : am_R} {g : am_J} {τ : am_T} {Q : am_Q} {x1 : Value} {v : Nat} : AW d 21 89 [.ref v, x1] (st) σ ρ g τ Q = AW d 21 90 [.ref v, x1] (.ref v :: st) σ ρ g τ Q := aw_lc m21 d21_89 rfl rfl rfl
theorem s21_89n {d : Nat} {st : List Value} {σ : am_I} {ρ : am_R} {g : am_J} {τ : am_T} {Q : am_Q} {x1 : Value} : AW d 21 89 [.null, x1] (st) σ ρ g τ Q = AW d 21 90 [.null, x1] (.null :: st) σ ρ g τ Q := aw_lc m21 d21_89 rfl rfl rfl
theorem d21_90 : decode cX3_init 90 = .ok (.iconst 0, 1) := by decide +kernel
theorem s21_90 {d : Nat} {st : List Value} {σ : am_I} {ρ : am_R} {g : am_J} {τ : am_T} {Q : am_Q} {x0 x1 : Value} : AW d 21 90 [x0, x1] (st) σ ρ g τ Q = AW d 21 91 [x0, x1] (.int 0 :: st) σ ρ g τ Q := aw_lc m21 d21_90 rfl rfl rfl
theorem d21_91 : decode cX3_init 91 = .ok (.putfield 61, 3) := by decide +kernel
theorem s21_91 {d : Nat} {st : List Value} {σ : am_I} {ρ : am_R} {g : am_J} {τ : am_T} {Q : am_Q} {x0 x1 : Value} {a : Nat} {v : Int32} (ht : τ.1 a = 3) : AW d 21 91 [x0, x1] (.int v :: .ref a :: st) σ ρ g τ Q = AW d 21 94 [x0, x1] (st) (am_u σ a 11 v) ρ g τ Q := aw_pi m21 d21_91 rfl rfl (Or.inl rfl) rfl ht
theorem d21_94 : decode cX3_init 94 = .ok (.aload_n 0, 1) := by decide +kernel
theorem s21_94 {d : Nat} {st : List Value} {σ : am_I} {ρ : am_R} {g : am_J} {τ : am_T} {Q : am_Q} {x1 : Value} {v : Nat} : AW d 21 94 [.ref v, x1] (st) σ ρ g τ Q = AW d 21 95 [.ref v, x1] (.ref v :: st) σ ρ g τ Q := aw_lc m21 d21_94 rfl rfl rfl
theorem s21_94n {d : Nat} {st : List Value} {σ : am_I} {ρ : am_R} {g : am_J} {τ : am_T} {Q : am_Q} {x1 : Value} : AW d 21 94 [.null, x1] (st) σ ρ g τ Q = AW d 21 95 [.null, x1] (.null :: st) σ ρ g τ Q := aw_lc m21 d21_94 rfl rfl rfl
theorem d21_95 : decode cX3_init 95 = .ok (.new 64, 3) := by decide +kernel
theorem s21_95 {d : Nat} {st : List Value} {σ : am_I} {ρ : am_R} {g : am_J} {τ : am_T} {Q : am_Q} {x0 x1 : Value} : AW d 21 95 [x0, x1] (st) σ ρ g τ Q = AW d 21 98 [x0, x1] (.ref τ.2.2.1 :: st) (am_new 4 4 σ ρ g τ).1 (am_new 4 4 σ ρ g τ).2.1 (am_new 4 4 σ ρ g τ).2.2.1 (am_new 4 4 σ ρ g τ).2.2.2 Q := aw_new m21 d21_95 rfl rfl (by decide)
theorem d21_98 : decode cX3_init 98 = .ok (.dup, 1) := by decide +kernel
theorem s21_98 {d : Nat} {st : List Value} {σ : am_I} {ρ : am_R} {g : am_J} {τ : am_T} {Q : am_Q} {x0 x1 : Value} {v : Int32} : AW d 21 98 [x0, x1] (.int v :: st) σ ρ g τ Q = AW d 21 99 [x0, x1] (.int v :: .int v :: st) σ ρ g τ Q := aw_lc m21 d21_98 rfl rfl rfl
theorem s21_98r {d : Nat} {st : List Value} {σ : am_I} {ρ : am_R} {g : am_J} {τ : am_T} {Q : am_Q} {x0 x1 : Value} {v : Nat} : AW d 21 98 [x0, x1] (.ref v :: st) σ ρ g τ Q = AW d 21 99 [x0, x1] (.ref v :: .ref v :: st) σ ρ g τ Q := aw_lc m21 d21_98 rfl rfl rfl
theorem d21_99 : decode cX3_init 99 = .ok (.bipush 6, 2) := by decide +kernel
theorem s21_99 {d : Nat} {st : List Value} {σ : am_I} {ρ : am_R} {g : am_J} {τ : am_T} {Q : am_Q} {x0 x1 : Value} : AW d 21 99 [x0, x1] (st) σ ρ g τ Q = AW d 21 101 [x0, x1] (.int 6 :: st) σ ρ g τ Q := aw_lc m21 d21_99 rfl rfl rfl
theorem d21_101 : decode cX3_init 101 = .ok (.iconst 3, 1) := by decide +kernel
theorem s21_101 {d : Nat} {st : List Value} {σ : am_I} {ρ : am_R} {g : am_J} {τ : am_T} {Q : am_Q} {x0 x1 : Value} : AW d 21 101 [x0, x1] (st) σ ρ g τ Q = AW d 21 102 [x0, x1] (.int 3 :: st) σ ρ g τ Q := aw_lc m21 d21_101 rfl rfl rfl
theorem d21_102 : decode cX3_init 102 = .ok (.invokespecial 66, 3) := by decide +kernel
theorem s21_102 {d : Nat} {st : List Value} {σ : am_I} {ρ : am_R} {g : am_J} {τ : am_T} {Q : am_Q} {x0 x1 : Value} {p0 : Nat} {p1 : Int32} {p2 : Int32} (hs : st.length ≤ 4) : AW (d + 1) 21 102 [x0, x1] (.int p2 :: .int p1 :: .ref p0 :: st) σ ρ g τ Q = AW d 42 0 [.ref p0, .int p1, .int p2] [] σ ρ g τ (fun r9 σ ρ g τ => AW (d + 1) 21 105 [x0, x1] (r9.toList ++ st) σ ρ g τ Q) := aw_ci m21 d21_102 rfl rfl en42 ok42 rfl hs
theorem d21_105 : decode cX3_init 105 = .ok (.putfield 69, 3) := by decide +kernel
theorem s21_105 {d : Nat} {st : List Value} {σ : am_I} {ρ : am_R} {g : am_J} {τ : am_T} {Q : am_Q} {x0 x1 : Value} {a b : Nat} (ht : τ.1 a = 3) : AW d 21 105 [x0, x1] (.ref b :: .ref a :: st) σ ρ g τ Q = AW d 21 108 [x0, x1] (st) σ (am_u ρ a 12 (some b)) g τ Q := aw_pr m21 d21_105 rfl rfl (Or.inr ⟨rfl, rfl⟩) rfl ht
theorem s21_105n {d : Nat} {st : List Value} {σ : am_I} {ρ : am_R} {g : am_J} {τ : am_T} {Q : am_Q} {x0 x1 : Value} {a : Nat} (ht : τ.1 a = 3) : AW d 21 105 [x0, x1] (.null :: .ref a :: st) σ ρ g τ Q = AW d 21 108 [x0, x1] (st) σ (am_u ρ a 12 none) g τ Q := aw_pn m21 d21_105 rfl rfl (Or.inr ⟨rfl, rfl⟩) rfl ht
theorem d21_108 : decode cX3_init 108 = .ok (.aload_n 0, 1) := by decide +kernel
theorem s21_108 {d : Nat} {st : List Value} {σ : am_I} {ρ : am_R} {g : am_J} {τ : am_T} {Q : am_Q} {x1 : Value} {v : Nat} : AW d 21 108 [.ref v, x1] (st) σ ρ g τ Q = AW d 21 109 [.ref v, x1] (.ref v :: st) σ ρ g τ Q := aw_lc m21 d21_108 rfl rfl rfl
theorem s21_108n {d : Nat} {st : List Value} {σ : am_I} {ρ : am_R} {g : am_J} {τ : am_T} {Q : am_Q} {x1 : Value} : AW d 21 108 [.null, x1] (st) σ ρ g τ Q = AW d 21 109 [.null, x1] (.null :: st) σ ρ g τ Q := aw_lc m21 d21_108 rfl rfl rfl
theorem d21_109 : decode cX3_init 109 = .ok (.new 64, 3) := by decide +kernel
theorem s21_109 {d : Nat} {st : List Value} {σ : am_I} {ρ : am_R} {g : am_J} {τ : am_T} {Q : am_Q} {x0 x1 : Value} : AW d 21 109 [x0, x1] (st) σ ρ g τ Q = AW d 21 112 [x0, x1] (.ref τ.2.2.1 :: st) (am_new 4 4 σ ρ g τ).1 (am_new 4 4 σ ρ g τ).2.1 (am_new 4 4 σ ρ g τ).2.2.1 (am_new 4 4 σ ρ g τ).2.2.2 Q := aw_new m21 d21_109 rfl rfl (by decide)
theorem d21_112 : decode cX3_init 112 = .ok (.dup, 1) := by decide +kernel
theorem s21_112 {d : Nat} {st : List Value} {σ : am_I} {ρ : am_R} {g : am_J} {τ : am_T} {Q : am_Q} {x0 x1 : Value} {v : Int32} : AW d 21 112 [x0, x1] (.int v :: st) σ ρ g τ Q = AW d 21 113 [x0, x1] (.int v :: .int v :: st) σ ρ g τ Q := aw_lc m21 d21_112 rfl rfl rfl
theorem s21_112r {d : Nat} {st : List Value} {σ : am_I} {ρ : am_R} {g : am_J} {τ : am_T} {Q : am_Q} {x0 x1 : Value} {v : Nat} : AW d 21 112 [x0, x1] (.ref v :: st) σ ρ g τ Q = AW d 21 113 [x0, x1] (.ref v :: .ref v :: st) σ ρ g τ Q := aw_lc m21 d21_112 rfl rfl rfl
theorem d21_113 : decode cX3_init 113 = .ok (.bipush 20, 2) := by decide +kernel
theorem s21_113 {d : Nat} {st : List Value} {σ : am_I} {ρ : am_R} {g : am_J} {τ : am_T} {Q : am_Q} {x0 x1 : Value} : AW d 21 113 [x0, x1] (st) σ ρ g τ Q = AW d 21 115 [x0, x1] (.int 20 :: st) σ ρ g τ Q := aw_lc m21 d21_113 rfl rfl rfl
theorem d21_115 : decode cX3_init 115 = .ok (.iconst 5, 1) := by decide +kernel
theorem s21_115 {d : Nat} {st : List Value} {σ : am_I} {ρ : am_R} {g : am_J} {τ : am_T} {Q : am_Q} {x0 x1 : Value} : AW d 21 115 [x0, x1] (st) σ ρ g τ Q = AW d 21 116 [x0, x1] (.int 5 :: st) σ ρ g τ Q := aw_lc m21 d21_115 rfl rfl rfl
theorem d21_116 : decode cX3_init 116 = .ok (.invokespecial 66, 3) := by decide +kernel
theorem s21_116 {d : Nat} {st : List Value} {σ : am_I} {ρ : am_R} {g : am_J} {τ : am_T} {Q : am_Q} {x0 x1 : Value} {p0 : Nat} {p1 : Int32} {p2 : Int32} (hs : st.length ≤ 4) : AW (d + 1) 21 116 [x0, x1] (.int p2 :: .int p1 :: .ref p0 :: st) σ ρ g τ Q = AW d 42 0 [.ref p0, .int p1, .int p2] [] σ ρ g τ (fun r9 σ ρ g τ => AW (d + 1) 21 119 [x0, x1] (r9.toList ++ st) σ ρ g τ Q) := aw_ci m21 d21_116 rfl rfl en42 ok42 rfl hs
theorem d21_119 : decode cX3_init 119 = .ok (.putfield 73, 3) := by decide +kernel
theorem s21_119 {d : Nat} {st : List Value} {σ : am_I} {ρ : am_R} {g : am_J} {τ : am_T} {Q : am_Q} {x0 x1 : Value} {a b : Nat} (ht : τ.1 a = 3) : AW d 21 119 [x0, x1] (.ref b :: .ref a :: st) σ ρ g τ Q = AW d 21 122 [x0, x1] (st) σ (am_u ρ a 13 (some b)) g τ Q := aw_pr m21 d21_119 rfl rfl (Or.inr ⟨rfl, rfl⟩) rfl ht
theorem s21_119n {d : Nat} {st : List Value} {σ : am_I} {ρ : am_R} {g : am_J} {τ : am_T} {Q : am_Q} {x0 x1 : Value} {a : Nat} (ht : τ.1 a = 3) : AW d 21 119 [x0, x1] (.null :: .ref a :: st) σ ρ g τ Q = AW d 21 122 [x0, x1] (st) σ (am_u ρ a 13 none) g τ Q := aw_pn m21 d21_119 rfl rfl (Or.inr ⟨rfl, rfl⟩) rfl ht
theorem d21_122 : decode cX3_init 122 = .ok (.aload_n 0, 1) := by decide +kernel
theorem s21_122 {d : Nat} {st : List Value} {σ : am_I} {ρ : am_R} {g : am_J} {τ : am_T} {Q : am_Q} {x1 : Value} {v : Nat} : AW d 21 122 [.ref v, x1] (st) σ ρ g τ Q = AW d 21 123 [.ref v, x1] (.ref v :: st) σ ρ g τ Q := aw_lc m21 d21_122 rfl rfl rfl
theorem s21_122n {d : Nat} {st : List Value} {σ : am_I} {ρ : am_R} {g : am_J} {τ : am_T} {Q : am_Q} {x1 : Value} : AW d 21 122 [.null, x1] (st) σ ρ g τ Q = AW d 21 123 [.null, x1] (.null :: st) σ ρ g τ Q := aw_lc m21 d21_122 rfl rfl rfl
theorem d21_123 : decode cX3_init 123 = .ok (.new 64, 3) := by decide +kernel
theorem s21_123 {d : Nat} {st : List Value} {σ : am_I} {ρ : am_R} {g : am_J} {τ : am_T} {Q : am_Q} {x0 x1 : Value} : AW d 21 123 [x0, x1] (st) σ ρ g τ Q = AW d 21 126 [x0, x1] (.ref τ.2.2.1 :: st) (am_new 4 4 σ ρ g τ).1 (am_new 4 4 σ ρ g τ).2.1 (am_new 4 4 σ ρ g τ).2.2.1 (am_new 4 4 σ ρ g τ).2.2.2 Q := aw_new m21 d21_123 rfl rfl (by decide)
theorem d21_126 : decode cX3_init 126 = .ok (.dup, 1) := by decide +kernel
theorem s21_126 {d : Nat} {st : List Value} {σ : am_I} {ρ : am_R} {g : am_J} {τ : am_T} {Q : am_Q} {x0 x1 : Value} {v : Int32} : AW d 21 126 [x0, x1] (.int v :: st) σ ρ g τ Q = AW d 21 127 [x0, x1] (.int v :: .int v :: st) σ ρ g τ Q := aw_lc m21 d21_126 rfl rfl rfl
theorem s21_126r {d : Nat} {st : List Value} {σ : am_I} {ρ : am_R} {g : am_J} {τ : am_T} {Q : am_Q} {x0 x1 : Value} {v : Nat} : AW d 21 126 [x0, x1] (.ref v :: st) σ ρ g τ Q = AW d 21 127 [x0, x1] (.ref v :: .ref v :: st) σ ρ g τ Q := aw_lc m21 d21_126 rfl rfl rfl
theorem d21_127 : decode cX3_init 127 = .ok (.bipush 16, 2) := by decide +kernel
theorem s21_127 {d : Nat} {st : List Value} {σ : am_I} {ρ : am_R} {g : am_J} {τ : am_T} {Q : am_Q} {x0 x1 : Value} : AW d 21 127 [x0, x1] (st) σ ρ g τ Q = AW d 21 129 [x0, x1] (.int 16 :: st) σ ρ g τ Q := aw_lc m21 d21_127 rfl rfl rfl
theorem d21_129 : decode cX3_init 129 = .ok (.iconst 3, 1) := by decide +kernel
theorem s21_129 {d : Nat} {st : List Value} {σ : am_I} {ρ : am_R} {g : am_J} {τ : am_T} {Q : am_Q} {x0 x1 : Value} : AW d 21 129 [x0, x1] (st) σ ρ g τ Q = AW d 21 130 [x0, x1] (.int 3 :: st) σ ρ g τ Q := aw_lc m21 d21_129 rfl rfl rfl
theorem d21_130 : decode cX3_init 130 = .ok (.invokespecial 66, 3) := by decide +kernel
theorem s21_130 {d : Nat} {st : List Value} {σ : am_I} {ρ : am_R} {g : am_J} {τ : am_T} {Q : am_Q} {x0 x1 : Value} {p0 : Nat} {p1 : Int32} {p2 : Int32} (hs : st.length ≤ 4) : AW (d + 1) 21 130 [x0, x1] (.int p2 :: .int p1 :: .ref p0 :: st) σ ρ g τ Q = AW d 42 0 [.ref p0, .int p1, .int p2] [] σ ρ g τ (fun r9 σ ρ g τ => AW (d + 1) 21 133 [x0, x1] (r9.toList ++ st) σ ρ g τ Q) := aw_ci m21 d21_130 rfl rfl en42 ok42 rfl hs
theorem d21_133 : decode cX3_init 133 = .ok (.putfield 76, 3) := by decide +kernel
theorem s21_133 {d : Nat} {st : List Value} {σ : am_I} {ρ : am_R} {g : am_J} {τ : am_T} {Q : am_Q} {x0 x1 : Value} {a b : Nat} (ht : τ.1 a = 3) : AW d 21 133 [x0, x1] (.ref b :: .ref a :: st) σ ρ g τ Q = AW d 21 136 [x0, x1] (st) σ (am_u ρ a 14 (some b)) g τ Q := aw_pr m21 d21_133 rfl rfl (Or.inr ⟨rfl, rfl⟩) rfl ht
theorem s21_133n {d : Nat} {st : List Value} {σ : am_I} {ρ : am_R} {g : am_J} {τ : am_T} {Q : am_Q} {x0 x1 : Value} {a : Nat} (ht : τ.1 a = 3) : AW d 21 133 [x0, x1] (.null :: .ref a :: st) σ ρ g τ Q = AW d 21 136 [x0, x1] (st) σ (am_u ρ a 14 none) g τ Q := aw_pn m21 d21_133 rfl rfl (Or.inr ⟨rfl, rfl⟩) rfl ht
theorem d21_136 : decode cX3_init 136 = .ok (.aload_n 0, 1) := by decide +kernel
theorem s21_136 {d : Nat} {st : List Value} {σ : am_I} {ρ : am_R} {g : am_J} {τ : am_T} {Q : am_Q} {x1 : Value} {v : Nat} : AW d 21 136 [.ref v, x1] (st) σ ρ g τ Q = AW d 21 137 [.ref v, x1] (.ref v :: st) σ ρ g τ Q := aw_lc m21 d21_136 rfl rfl rfl
theorem s21_136n {d : Nat} {st : List Value} {σ : am_I} {ρ : am_R} {g : am_J} {τ : am_T} {Q : am_Q} {x1 : Value} : AW d 21 136 [.null, x1] (st) σ ρ g τ Q = AW d 21 137 [.null, x1] (.null :: st) σ ρ g τ Q := aw_lc m21 d21_136 rfl rfl rfl
theorem d21_137 : decode cX3_init 137 = .ok (.new 64, 3) := by decide +kernel
theorem s21_137 {d : Nat} {st : List Value} {σ : am_I} {ρ : am_R} {g : am_J} {τ : am_T} {Q : am_Q} {x0 x1 : Value} : AW d 21 137 [x0, x1] (st) σ ρ g τ Q = AW d 21 140 [x0, x1] (.ref τ.2.2.1 :: st) (am_new 4 4 σ ρ g τ).1 (am_new 4 4 σ ρ g τ).2.1 (am_new 4 4 σ ρ g τ).2.2.1 (am_new 4 4 σ ρ g τ).2.2.2 Q := aw_new m21 d21_137 rfl rfl (by decide)
theorem d21_140 : decode cX3_init 140 = .ok (.dup, 1) := by decide +kernel
theorem s21_140 {d : Nat} {st : List Value} {σ : am_I} {ρ : am_R} {g : am_J} {τ : am_T} {Q : am_Q} {x0 x1 : Value} {v : Int32} : AW d 21 140 [x0, x1] (.int v :: st) σ ρ g τ Q = AW d 21 141 [x0, x1] (.int v :: .int v :: st) σ ρ g τ Q := aw_lc m21 d21_140 rfl rfl rfl
theorem s21_140r {d : Nat} {st : List Value} {σ : am_I} {ρ : am_R} {g : am_J} {τ : am_T} {Q : am_Q} {x0 x1 : Value} {v : Nat} : AW d 21 140 [x0, x1] (.ref v :: st) σ ρ g τ Q = AW d 21 141 [x0, x1] (.ref v :: .ref v :: st) σ ρ g τ Q := aw_lc m21 d21_140 rfl rfl rfl
theorem d21_141 : decode cX3_init 141 = .ok (.bipush 8, 2) := by decide +kernel
theorem s21_141 {d : Nat} {st : List Value} {σ : am_I} {ρ : am_R} {g : am_J} {τ : am_T} {Q : am_Q} {x0 x1 : Value} : AW d 21 141 [x0, x1] (st) σ ρ g τ Q = AW d 21 143 [x0, x1] (.int 8 :: st) σ ρ g τ Q := aw_lc m21 d21_141 rfl rfl rfl
theorem d21_143 : decode cX3_init 143 = .ok (.iconst 4, 1) := by decide +kernel
theorem s21_143 {d : Nat} {st : List Value} {σ : am_I} {ρ : am_R} {g : am_J} {τ : am_T} {Q : am_Q} {x0 x1 : Value} : AW d 21 143 [x0, x1] (st) σ ρ g τ Q = AW d 21 144 [x0, x1] (.int 4 :: st) σ ρ g τ Q := aw_lc m21 d21_143 rfl rfl rfl
theorem d21_144 : decode cX3_init 144 = .ok (.invokespecial 66, 3) := by decide +kernel
theorem s21_144 {d : Nat} {st : List Value} {σ : am_I} {ρ : am_R} {g : am_J} {τ : am_T} {Q : am_Q} {x0 x1 : Value} {p0 : Nat} {p1 : Int32} {p2 : Int32} (hs : st.length ≤ 4) : AW (d + 1) 21 144 [x0, x1] (.int p2 :: .int p1 :: .ref p0 :: st) σ ρ g τ Q = AW d 42 0 [.ref p0, .int p1, .int p2] [] σ ρ g τ (fun r9 σ ρ g τ => AW (d + 1) 21 147 [x0, x1] (r9.toList ++ st) σ ρ g τ Q) := aw_ci m21 d21_144 rfl rfl en42 ok42 rfl hs
theorem d21_147 : decode cX3_init 147 = .ok (.putfield 79, 3) := by decide +kernel
theorem s21_147 {d : Nat} {st : List Value} {σ : am_I} {ρ : am_R} {g : am_J} {τ : am_T} {Q : am_Q} {x0 x1 : Value} {a b : Nat} (ht : τ.1 a = 3) : AW d 21 147 [x0, x1] (.ref b :: .ref a :: st) σ ρ g τ Q = AW d 21 150 [x0, x1] (st) σ (am_u ρ a 15 (some b)) g τ Q := aw_pr m21 d21_147 rfl rfl (Or.inr ⟨rfl, rfl⟩) rfl ht
theorem s21_147n {d : Nat} {st : List Value} {σ : am_I} {ρ : am_R} {g : am_J} {τ : am_T} {Q : am_Q} {x0 x1 : Value} {a : Nat} (ht : τ.1 a = 3) : AW d 21 147 [x0, x1] (.null :: .ref a :: st) σ ρ g τ Q = AW d 21 150 [x0, x1] (st) σ (am_u ρ a 15 none) g τ Q := aw_pn m21 d21_147 rfl rfl (Or.inr ⟨rfl, rfl⟩) rfl ht
theorem d21_150 : decode cX3_init 150 = .ok (.aload_n 0, 1) := by decide +kernel
theorem s21_150 {d : Nat} {st : List Value} {σ : am_I} {ρ : am_R} {g : am_J} {τ : am_T} {Q : am_Q} {x1 : Value} {v : Nat} : AW d 21 150 [.ref v, x1] (st) σ ρ g τ Q = AW d 21 151 [.ref v, x1] (.ref v :: st) σ ρ g τ Q := aw_lc m21 d21_150 rfl rfl rfl
theorem s21_150n {d : Nat} {st : List Value} {σ : am_I} {ρ : am_R} {g : am_J} {τ : am_T} {Q : am_Q} {x1 : Value} : AW d 21 150 [.null, x1] (st) σ ρ g τ Q = AW d 21 151 [.null, x1] (.null :: st) σ ρ g τ Q := aw_lc m21 d21_150 rfl rfl rfl
theorem d21_151 : decode cX3_init 151 = .ok (.getfield 18, 3) := by decide +kernel
theorem s21_151 {d : Nat} {st : List Value} {σ : am_I} {ρ : am_R} {g : am_J} {τ : am_T} {Q : am_Q} {x0 x1 : Value} {a : Nat} (ht : τ.1 a = 3) : AW d 21 151 [x0, x1] (.ref a :: st) σ ρ g τ Q = AW d 21 154 [x0, x1] (va_rf (ρ a 2) :: st) σ ρ g τ Q := aw_gr m21 d21_151 rfl rfl rfl ht
theorem d21_154 : decode cX3_init 154 = .ok (.bipush 10, 2) := by decide +kernel
theorem s21_154 {d : Nat} {st : List Value} {σ : am_I} {ρ : am_R} {g : am_J} {τ : am_T} {Q : am_Q} {x0 x1 : Value} : AW d 21 154 [x0, x1] (st) σ ρ g τ Q = AW d 21 156 [x0, x1] (.int 10 :: st) σ ρ g τ Q := aw_lc m21 d21_154 rfl rfl rfl
theorem d21_156 : decode cX3_init 156 = .ok (.invokestatic 82, 3) := by decide +kernel
theorem s21_156 {d : Nat} {st : List Value} {σ : am_I} {ρ : am_R} {g : am_J} {τ : am_T} {Q : am_Q} {x0 x1 : Value} {p0 : Nat} {p1 : Int32} (hs : st.length ≤ 4) : AW (d + 1) 21 156 [x0, x1] (.int p1 :: .ref p0 :: st) σ ρ g τ Q = AW d 275 0 [.ref p0, .int p1, am_jk, am_jk] [] σ ρ g τ (fun r9 σ ρ g τ => AW (d + 1) 21 159 [x0, x1] (r9.toList ++ st) σ ρ g τ Q) := aw_cs m21 d21_156 rfl (by simp only [List.length_cons]; omega) rfl rfl en275 ok275 rfl hs
theorem d21_159 : decode cX3_init 159 = .ok (.aload_n 0, 1) := by decide +kernel
theorem s21_159 {d : Nat} {st : List Value} {σ : am_I} {ρ : am_R} {g : am_J} {τ : am_T} {Q : am_Q} {x1 : Value} {v : Nat} : AW d 21 159 [.ref v, x1] (st) σ ρ g τ Q = AW d 21 160 [.ref v, x1] (.ref v :: st) σ ρ g τ Q := aw_lc m21 d21_159 rfl rfl rfl
theorem s21_159n {d : Nat} {st : List Value} {σ : am_I} {ρ : am_R} {g : am_J} {τ : am_T} {Q : am_Q} {x1 : Value} : AW d 21 159 [.null, x1] (st) σ ρ g τ Q = AW d 21 160 [.null, x1] (.null :: st) σ ρ g τ Q := aw_lc m21 d21_159 rfl rfl rfl
theorem d21_160 : decode cX3_init 160 = .ok (.getfield 22, 3) := by decide +kernel
theorem s21_160 {d : Nat} {st : List Value} {σ : am_I} {ρ : am_R} {g : am_J} {τ : am_T} {Q : am_Q} {x0 x1 : Value} {a : Nat} (ht : τ.1 a = 3) : AW d 21 160 [x0, x1] (.ref a :: st) σ ρ g τ Q = AW d 21 163 [x0, x1] (va_rf (ρ a 3) :: st) σ ρ g τ Q := aw_gr m21 d21_160 rfl rfl rfl ht
theorem d21_163 : decode cX3_init 163 = .ok (.bipush 100, 2) := by decide +kernel
theorem s21_163 {d : Nat} {st : List Value} {σ : am_I} {ρ : am_R} {g : am_J} {τ : am_T} {Q : am_Q} {x0 x1 : Value} : AW d 21 163 [x0, x1] (st) σ ρ g τ Q = AW d 21 165 [x0, x1] (.int 100 :: st) σ ρ g τ Q := aw_lc m21 d21_163 rfl rfl rfl
theorem d21_165 : decode cX3_init 165 = .ok (.invokestatic 82, 3) := by decide +kernel
theorem s21_165 {d : Nat} {st : List Value} {σ : am_I} {ρ : am_R} {g : am_J} {τ : am_T} {Q : am_Q} {x0 x1 : Value} {p0 : Nat} {p1 : Int32} (hs : st.length ≤ 4) : AW (d + 1) 21 165 [x0, x1] (.int p1 :: .ref p0 :: st) σ ρ g τ Q = AW d 275 0 [.ref p0, .int p1, am_jk, am_jk] [] σ ρ g τ (fun r9 σ ρ g τ => AW (d + 1) 21 168 [x0, x1] (r9.toList ++ st) σ ρ g τ Q) := aw_cs m21 d21_165 rfl (by simp only [List.length_cons]; omega) rfl rfl en275 ok275 rfl hs
theorem d21_168 : decode cX3_init 168 = .ok (.iconst 0, 1) := by decide +kernel
theorem s21_168 {d : Nat} {st : List Value} {σ : am_I} {ρ : am_R} {g : am_J} {τ : am_T} {Q : am_Q} {x0 x1 : Value} : AW d 21 168 [x0, x1] (st) σ ρ g τ Q = AW d 21 169 [x0, x1] (.int 0 :: st) σ ρ g τ Q := aw_lc m21 d21_168 rfl rfl rfl
theorem d21_169 : decode cX3_init 169 = .ok (.istore_n 1, 1) := by decide +kernel
theorem s21_169r {d : Nat} {st : List Value} {σ : am_I} {ρ : am_R} {g : am_J} {τ : am_T} {Q : am_Q} {x1 : Value} {v : Int32} {u : Nat} : AW d 21 169 [.ref u, x1] (.int v :: st) σ ρ g τ Q = AW d 21 170 [.ref u, .int v] (st) σ ρ g τ Q := aw_lc m21 d21_169 rfl rfl rfl
theorem d21_170 : decode cX3_init 170 = .ok (.iload_n 1, 1) := by decide +kernel
theorem s21_170 {d : Nat} {st : List Value} {σ : am_I} {ρ : am_R} {g : am_J} {τ : am_T} {Q : am_Q} {x0 : Value} {v : Int32} : AW d 21 170 [x0, .int v] (st) σ ρ g τ Q = AW d 21 171 [x0, .int v] (.int v :: st) σ ρ g τ Q := aw_lc m21 d21_170 rfl rfl rfl
theorem d21_171 : decode cX3_init 171 = .ok (.bipush 8, 2) := by decide +kernel
theorem s21_171 {d : Nat} {st : List Value} {σ : am_I} {ρ : am_R} {g : am_J} {τ : am_T} {Q : am_Q} {x0 x1 : Value} : AW d 21 171 [x0, x1] (st) σ ρ g τ Q = AW d 21 173 [x0, x1] (.int 8 :: st) σ ρ g τ Q := aw_lc m21 d21_171 rfl rfl rfl
theorem d21_173 : decode cX3_init 173 = .ok (.if_icmp .ge 22, 3) := by decide +kernel
theorem s21_173 {d : Nat} {st : List Value} {σ : am_I} {ρ : am_R} {g : am_J} {τ : am_T} {Q : am_Q} {x0 x1 : Value} {v w : Int32} : AW d 21 173 [x0, x1] (.int w :: .int v :: st) σ ρ g τ Q = if w ≤ v then AW d 21 195 [x0, x1] (st) σ ρ g τ Q else AW d 21 176 [x0, x1] (st) σ ρ g τ Q := aw_br m21 d21_173 rfl rfl rfl
theorem d21_176 : decode cX3_init 176 = .ok (.aload_n 0, 1) := by decide +kernel
theorem s21_176 {d : Nat} {st : List Value} {σ : am_I} {ρ : am_R} {g : am_J} {τ : am_T} {Q : am_Q} {x1 : Value} {v : Nat} : AW d 21 176 [.ref v, x1] (st) σ ρ g τ Q = AW d 21 177 [.ref v, x1] (.ref v :: st) σ ρ g τ Q := aw_lc m21 d21_176 rfl rfl rfl
theorem s21_176n {d : Nat} {st : List Value} {σ : am_I} {ρ : am_R} {g : am_J} {τ : am_T} {Q : am_Q} {x1 : Value} : AW d 21 176 [.null, x1] (st) σ ρ g τ Q = AW d 21 177 [.null, x1] (.null :: st) σ ρ g τ Q := aw_lc m21 d21_176 rfl rfl rfl
theorem d21_177 : decode cX3_init 177 = .ok (.getfield 30, 3) := by decide +kernel
theorem s21_177 {d : Nat} {st : List Value} {σ : am_I} {ρ : am_R} {g : am_J} {τ : am_T} {Q : am_Q} {x0 x1 : Value} {a : Nat} (ht : τ.1 a = 3) : AW d 21 177 [x0, x1] (.ref a :: st) σ ρ g τ Q = AW d 21 180 [x0, x1] (va_rf (ρ a 5) :: st) σ ρ g τ Q := aw_gr m21 d21_177 rfl rfl rfl ht
theorem d21_180 : decode cX3_init 180 = .ok (.iload_n 1, 1) := by decide +kernel
theorem s21_180 {d : Nat} {st : List Value} {σ : am_I} {ρ : am_R} {g : am_J} {τ : am_T} {Q : am_Q} {x0 : Value} {v : Int32} : AW d 21 180 [x0, .int v] (st) σ ρ g τ Q = AW d 21 181 [x0, .int v] (.int v :: st) σ ρ g τ Q := aw_lc m21 d21_180 rfl rfl rfl
theorem d21_181 : decode cX3_init 181 = .ok (.new 28, 3) := by decide +kernel
theorem s21_181 {d : Nat} {st : List Value} {σ : am_I} {ρ : am_R} {g : am_J} {τ : am_T} {Q : am_Q} {x0 x1 : Value} : AW d 21 181 [x0, x1] (st) σ ρ g τ Q = AW d 21 184 [x0, x1] (.ref τ.2.2.1 :: st) (am_new 7 5 σ ρ g τ).1 (am_new 7 5 σ ρ g τ).2.1 (am_new 7 5 σ ρ g τ).2.2.1 (am_new 7 5 σ ρ g τ).2.2.2 Q := aw_new m21 d21_181 rfl rfl (by decide)
theorem d21_184 : decode cX3_init 184 = .ok (.dup, 1) := by decide +kernel
theorem s21_184 {d : Nat} {st : List Value} {σ : am_I} {ρ : am_R} {g : am_J} {τ : am_T} {Q : am_Q} {x0 x1 : Value} {v : Int32} : AW d 21 184 [x0, x1] (.int v :: st) σ ρ g τ Q = AW d 21 185 [x0, x1] (.int v :: .int v :: st) σ ρ g τ Q := aw_lc m21 d21_184 rfl rfl rfl
theorem s21_184r {d : Nat} {st : List Value} {σ : am_I} {ρ : am_R} {g : am_J} {τ : am_T} {Q : am_Q} {x0 x1 : Value} {v : Nat} : AW d 21 184 [x0, x1] (.ref v :: st) σ ρ g τ Q = AW d 21 185 [x0, x1] (.ref v :: .ref v :: st) σ ρ g τ Q := aw_lc m21 d21_184 rfl rfl rfl
theorem d21_185 : decode cX3_init 185 = .ok (.invokespecial 88, 3) := by decide +kernel
theorem s21_185 {d : Nat} {st : List Value} {σ : am_I} {ρ : am_R} {g : am_J} {τ : am_T} {Q : am_Q} {x0 x1 : Value} {p0 : Nat} (hs : st.length ≤ 4) : AW (d + 1) 21 185 [x0, x1] (.ref p0 :: st) σ ρ g τ Q = AW d 59 0 [.ref p0] [] σ ρ g τ (fun r9 σ ρ g τ => AW (d + 1) 21 188 [x0, x1] (r9.toList ++ st) σ ρ g τ Q) := aw_ci m21 d21_185 rfl rfl en59 ok59 rfl hs
theorem d21_188 : decode cX3_init 188 = .ok (.aastore, 1) := by decide +kernel
theorem s21_188 {d : Nat} {st : List Value} {σ : am_I} {ρ : am_R} {g : am_J} {τ : am_T} {Q : am_Q} {x0 x1 : Value} {a b : Nat} {j : Int32} (ht : 18 ≤ τ.1 a ∧ τ.1 a ≤ 22) (hj : am_inb j (τ.2.1 a) = true) (hb : τ.1 b = am_elK (τ.1 a)) (hb2 : b < am_BG) : AW d 21 188 [x0, x1] (.ref b :: .int j :: .ref a :: st) σ ρ g τ Q = AW d 21 189 [x0, x1] (st) σ (am_u ρ a j.toNatClampNeg (some b)) g τ Q := aw_aas m21 d21_188 rfl ht hj hb hb2
theorem d21_189 : decode cX3_init 189 = .ok (.iinc 1 1, 3) := by decide +kernel
theorem s21_189r {d : Nat} {st : List Value} {σ : am_I} {ρ : am_R} {g : am_J} {τ : am_T} {Q : am_Q} {v : Int32} {u : Nat} : AW d 21 189 [.ref u, .int v] (st) σ ρ g τ Q = AW d 21 192 [.ref u, .int (v + 1)] (st) σ ρ g τ Q := aw_lc m21 d21_189 rfl rfl rfl
theorem d21_192 : decode cX3_init 192 = .ok (.goto (-22), 3) := by decide +kernel
theorem s21_192 {d : Nat} {st : List Value} {σ : am_I} {ρ : am_R} {g : am_J} {τ : am_T} {Q : am_Q} {x0 x1 : Value} : AW d 21 192 [x0, x1] (st) σ ρ g τ Q = AW d 21 170 [x0, x1] (st) σ ρ g τ Q := aw_lc m21 d21_192 rfl rfl rfl
theorem d21_195 : decode cX3_init 195 = .ok (.iconst 0, 1) := by decide +kernel
theorem s21_195 {d : Nat} {st : List Value} {σ : am_I} {ρ : am_R} {g : am_J} {τ : am_T} {Q : am_Q} {x0 x1 : Value} : AW d 21 195 [x0, x1] (st) σ ρ g τ Q = AW d 21 196 [x0, x1] (.int 0 :: st) σ ρ g τ Q := aw_lc m21 d21_195 rfl rfl rfl
theorem d21_196 : decode cX3_init 196 = .ok (.istore_n 1, 1) := by decide +kernel
theorem s21_196r {d : Nat} {st : List Value} {σ : am_I} {ρ : am_R} {g : am_J} {τ : am_T} {Q : am_Q} {x1 : Value} {v : Int32} {u : Nat} : AW d 21 196 [.ref u, x1] (.int v :: st) σ ρ g τ Q = AW d 21 197 [.ref u, .int v] (st) σ ρ g τ Q := aw_lc m21 d21_196 rfl rfl rfl
theorem d21_197 : decode cX3_init 197 = .ok (.iload_n 1, 1) := by decide +kernel
theorem s21_197 {d : Nat} {st : List Value} {σ : am_I} {ρ : am_R} {g : am_J} {τ : am_T} {Q : am_Q} {x0 : Value} {v : Int32} : AW d 21 197 [x0, .int v] (st) σ ρ g τ Q = AW d 21 198 [x0, .int v] (.int v :: st) σ ρ g τ Q := aw_lc m21 d21_197 rfl rfl rfl
theorem d21_198 : decode cX3_init 198 = .ok (.bipush 16, 2) := by decide +kernel
theorem s21_198 {d : Nat} {st : List Value} {σ : am_I} {ρ : am_R} {g : am_J} {τ : am_T} {Q : am_Q} {x0 x1 : Value} : AW d 21 198 [x0, x1] (st) σ ρ g τ Q = AW d 21 200 [x0, x1] (.int 16 :: st) σ ρ g τ Q := aw_lc m21 d21_198 rfl rfl rfl
theorem d21_200 : decode cX3_init 200 = .ok (.if_icmp .ge 22, 3) := by decide +kernel
theorem s21_200 {d : Nat} {st : List Value} {σ : am_I} {ρ : am_R} {g : am_J} {τ : am_T} {Q : am_Q} {x0 x1 : Value} {v w : Int32} : AW d 21 200 [x0, x1] (.int w :: .int v :: st) σ ρ g τ Q = if w ≤ v then AW d 21 222 [x0, x1] (st) σ ρ g τ Q else AW d 21 203 [x0, x1] (st) σ ρ g τ Q := aw_br m21 d21_200 rfl rfl rfl
theorem d21_203 : decode cX3_init 203 = .ok (.aload_n 0, 1) := by decide +kernel
theorem s21_203 {d : Nat} {st : List Value} {σ : am_I} {ρ : am_R} {g : am_J} {τ : am_T} {Q : am_Q} {x1 : Value} {v : Nat} : AW d 21 203 [.ref v, x1] (st) σ ρ g τ Q = AW d 21 204 [.ref v, x1] (.ref v :: st) σ ρ g τ Q := aw_lc m21 d21_203 rfl rfl rfl
theorem s21_203n {d : Nat} {st : List Value} {σ : am_I} {ρ : am_R} {g : am_J} {τ : am_T} {Q : am_Q} {x1 : Value} : AW d 21 203 [.null, x1] (st) σ ρ g τ Q = AW d 21 204 [.null, x1] (.null :: st) σ ρ g τ Q := aw_lc m21 d21_203 rfl rfl rfl
theorem d21_204 : decode cX3_init 204 = .ok (.getfield 39, 3) := by decide +kernel
theorem s21_204 {d : Nat} {st : List Value} {σ : am_I} {ρ : am_R} {g : am_J} {τ : am_T} {Q : am_Q} {x0 x1 : Value} {a : Nat} (ht : τ.1 a = 3) : AW d 21 204 [x0, x1] (.ref a :: st) σ ρ g τ Q = AW d 21 207 [x0, x1] (va_rf (ρ a 7) :: st) σ ρ g τ Q := aw_gr m21 d21_204 rfl rfl rfl ht
theorem d21_207 : decode cX3_init 207 = .ok (.iload_n 1, 1) := by decide +kernel
theorem s21_207 {d : Nat} {st : List Value} {σ : am_I} {ρ : am_R} {g : am_J} {τ : am_T} {Q : am_Q} {x0 : Value} {v : Int32} : AW d 21 207 [x0, .int v] (st) σ ρ g τ Q = AW d 21 208 [x0, .int v] (.int v :: st) σ ρ g τ Q := aw_lc m21 d21_207 rfl rfl rfl
theorem d21_208 : decode cX3_init 208 = .ok (.new 37, 3) := by decide +kernel
theorem s21_208 {d : Nat} {st : List Value} {σ : am_I} {ρ : am_R} {g : am_J} {τ : am_T} {Q : am_Q} {x0 x1 : Value} : AW d 21 208 [x0, x1] (st) σ ρ g τ Q = AW d 21 211 [x0, x1] (.ref τ.2.2.1 :: st) (am_new 1 10 σ ρ g τ).1 (am_new 1 10 σ ρ g τ).2.1 (am_new 1 10 σ ρ g τ).2.2.1 (am_new 1 10 σ ρ g τ).2.2.2 Q := aw_new m21 d21_208 rfl rfl (by decide)
theorem d21_211 : decode cX3_init 211 = .ok (.dup, 1) := by decide +kernel
theorem s21_211 {d : Nat} {st : List Value} {σ : am_I} {ρ : am_R} {g : am_J} {τ : am_T} {Q : am_Q} {x0 x1 : Value} {v : Int32} : AW d 21 211 [x0, x1] (.int v :: st) σ ρ g τ Q = AW d 21 212 [x0, x1] (.int v :: .int v :: st) σ ρ g τ Q := aw_lc m21 d21_211 rfl rfl rfl
theorem s21_211r {d : Nat} {st : List Value} {σ : am_I} {ρ : am_R} {g : am_J} {τ : am_T} {Q : am_Q} {x0 x1 : Value} {v : Nat} : AW d 21 211 [x0, x1] (.ref v :: st) σ ρ g τ Q = AW d 21 212 [x0, x1] (.ref v :: .ref v :: st) σ ρ g τ Q := aw_lc m21 d21_211 rfl rfl rfl
theorem d21_212 : decode cX3_init 212 = .ok (.invokespecial 89, 3) := by decide +kernel
theorem s21_212 {d : Nat} {st : List Value} {σ : am_I} {ρ : am_R} {g : am_J} {τ : am_T} {Q : am_Q} {x0 x1 : Value} {p0 : Nat} (hs : st.length ≤ 4) : AW (d + 1) 21 212 [x0, x1] (.ref p0 :: st) σ ρ g τ Q = AW d 7 0 [.ref p0] [] σ ρ g τ (fun r9 σ ρ g τ => AW (d + 1) 21 215 [x0, x1] (r9.toList ++ st) σ ρ g τ Q) := aw_ci m21 d21_212 rfl rfl en7 ok7 rfl hs
theorem d21_215 : decode cX3_init 215 = .ok (.aastore, 1) := by decide +kernel
theorem s21_215 {d : Nat} {st : List Value} {σ : am_I} {ρ : am_R} {g : am_J} {τ : am_T} {Q : am_Q} {x0 x1 : Value} {a b : Nat} {j : Int32} (ht : 18 ≤ τ.1 a ∧ τ.1 a ≤ 22) (hj : am_inb j (τ.2.1 a) = true) (hb : τ.1 b = am_elK (τ.1 a)) (hb2 : b < am_BG) : AW d 21 215 [x0, x1] (.ref b :: .int j :: .ref a :: st) σ ρ g τ Q = AW d 21 216 [x0, x1] (st) σ (am_u ρ a j.toNatClampNeg (some b)) g τ Q := aw_aas m21 d21_215 rfl ht hj hb hb2
theorem d21_216 : decode cX3_init 216 = .ok (.iinc 1 1, 3) := by decide +kernel
theorem s21_216r {d : Nat} {st : List Value} {σ : am_I} {ρ : am_R} {g : am_J} {τ : am_T} {Q : am_Q} {v : Int32} {u : Nat} : AW d 21 216 [.ref u, .int v] (st) σ ρ g τ Q = AW d 21 219 [.ref u, .int (v + 1)] (st) σ ρ g τ Q := aw_lc m21 d21_216 rfl rfl rfl
theorem d21_219 : decode cX3_init 219 = .ok (.goto (-22), 3) := by decide +kernel
theorem s21_219 {d : Nat} {st : List Value} {σ : am_I} {ρ : am_R} {g : am_J} {τ : am_T} {Q : am_Q} {x0 x1 : Value} : AW d 21 219 [x0, x1] (st) σ ρ g τ Q = AW d 21 197 [x0, x1] (st) σ ρ g τ Q := aw_lc m21 d21_219 rfl rfl rfl
theorem d21_222 : decode cX3_init 222 = .ok (.iconst 0, 1) := by decide +kernel
theorem s21_222 {d : Nat} {st : List Value} {σ : am_I} {ρ : am_R} {g : am_J} {τ : am_T} {Q : am_Q} {x0 x1 : Value} : AW d 21 222 [x0, x1] (st) σ ρ g τ Q = AW d 21 223 [x0, x1] (.int 0 :: st) σ ρ g τ Q := aw_lc m21 d21_222 rfl rfl rfl
theorem d21_223 : decode cX3_init 223 = .ok (.istore_n 1, 1) := by decide +kernel
theorem s21_223r {d : Nat} {st : List Value} {σ : am_I} {ρ : am_R} {g : am_J} {τ : am_T} {Q : am_Q} {x1 : Value} {v : Int32} {u : Nat} : AW d 21 223 [.ref u, x1] (.int v :: st) σ ρ g τ Q = AW d 21 224 [.ref u, .int v] (st) σ ρ g τ Q := aw_lc m21 d21_223 rfl rfl rfl
theorem d21_224 : decode cX3_init 224 = .ok (.iload_n 1, 1) := by decide +kernel
theorem s21_224 {d : Nat} {st : List Value} {σ : am_I} {ρ : am_R} {g : am_J} {τ : am_T} {Q : am_Q} {x0 : Value} {v : Int32} : AW d 21 224 [x0, .int v] (st) σ ρ g τ Q = AW d 21 225 [x0, .int v] (.int v :: st) σ ρ g τ Q := aw_lc m21 d21_224 rfl rfl rfl
theorem d21_225 : decode cX3_init 225 = .ok (.bipush 8, 2) := by decide +kernel
theorem s21_225 {d : Nat} {st : List Value} {σ : am_I} {ρ : am_R} {g : am_J} {τ : am_T} {Q : am_Q} {x0 x1 : Value} : AW d 21 225 [x0, x1] (st) σ ρ g τ Q = AW d 21 227 [x0, x1] (.int 8 :: st) σ ρ g τ Q := aw_lc m21 d21_225 rfl rfl rfl
theorem d21_227 : decode cX3_init 227 = .ok (.if_icmp .ge 19, 3) := by decide +kernel
theorem s21_227 {d : Nat} {st : List Value} {σ : am_I} {ρ : am_R} {g : am_J} {τ : am_T} {Q : am_Q} {x0 x1 : Value} {v w : Int32} : AW d 21 227 [x0, x1] (.int w :: .int v :: st) σ ρ g τ Q = if w ≤ v then AW d 21 246 [x0, x1] (st) σ ρ g τ Q else AW d 21 230 [x0, x1] (st) σ ρ g τ Q := aw_br m21 d21_227 rfl rfl rfl
theorem d21_230 : decode cX3_init 230 = .ok (.aload_n 0, 1) := by decide +kernel
theorem s21_230 {d : Nat} {st : List Value} {σ : am_I} {ρ : am_R} {g : am_J} {τ : am_T} {Q : am_Q} {x1 : Value} {v : Nat} : AW d 21 230 [.ref v, x1] (st) σ ρ g τ Q = AW d 21 231 [.ref v, x1] (.ref v :: st) σ ρ g τ Q := aw_lc m21 d21_230 rfl rfl rfl
theorem s21_230n {d : Nat} {st : List Value} {σ : am_I} {ρ : am_R} {g : am_J} {τ : am_T} {Q : am_Q} {x1 : Value} : AW d 21 230 [.null, x1] (st) σ ρ g τ Q = AW d 21 231 [.null, x1] (.null :: st) σ ρ g τ Q := aw_lc m21 d21_230 rfl rfl rfl
theorem d21_231 : decode cX3_init 231 = .ok (.getfield 57, 3) := by decide +kernel
theorem s21_231 {d : Nat} {st : List Value} {σ : am_I} {ρ : am_R} {g : am_J} {τ : am_T} {Q : am_Q} {x0 x1 : Value} {a : Nat} (ht : τ.1 a = 3) : AW d 21 231 [x0, x1] (.ref a :: st) σ ρ g τ Q = AW d 21 234 [x0, x1] (va_rf (ρ a 10) :: st) σ ρ g τ Q := aw_gr m21 d21_231 rfl rfl rfl ht
theorem d21_234 : decode cX3_init 234 = .ok (.iload_n 1, 1) := by decide +kernel
theorem s21_234 {d : Nat} {st : List Value} {σ : am_I} {ρ : am_R} {g : am_J} {τ : am_T} {Q : am_Q} {x0 : Value} {v : Int32} : AW d 21 234 [x0, .int v] (st) σ ρ g τ Q = AW d 21 235 [x0, .int v] (.int v :: st) σ ρ g τ Q := aw_lc m21 d21_234 rfl rfl rfl
theorem d21_235 : decode cX3_init 235 = .ok (.aload_n 0, 1) := by decide +kernel
theorem s21_235 {d : Nat} {st : List Value} {σ : am_I} {ρ : am_R} {g : am_J} {τ : am_T} {Q : am_Q} {x1 : Value} {v : Nat} : AW d 21 235 [.ref v, x1] (st) σ ρ g τ Q = AW d 21 236 [.ref v, x1] (.ref v :: st) σ ρ g τ Q := aw_lc m21 d21_235 rfl rfl rfl
theorem s21_235n {d : Nat} {st : List Value} {σ : am_I} {ρ : am_R} {g : am_J} {τ : am_T} {Q : am_Q} {x1 : Value} : AW d 21 235 [.null, x1] (st) σ ρ g τ Q = AW d 21 236 [.null, x1] (.null :: st) σ ρ g τ Q := aw_lc m21 d21_235 rfl rfl rfl
theorem d21_236 : decode cX3_init 236 = .ok (.getfield 53, 3) := by decide +kernel
theorem s21_236 {d : Nat} {st : List Value} {σ : am_I} {ρ : am_R} {g : am_J} {τ : am_T} {Q : am_Q} {x0 x1 : Value} {a : Nat} (ht : τ.1 a = 3) : AW d 21 236 [x0, x1] (.ref a :: st) σ ρ g τ Q = AW d 21 239 [x0, x1] (va_rf (ρ a 9) :: st) σ ρ g τ Q := aw_gr m21 d21_236 rfl rfl rfl ht
theorem d21_239 : decode cX3_init 239 = .ok (.aastore, 1) := by decide +kernel
theorem s21_239 {d : Nat} {st : List Value} {σ : am_I} {ρ : am_R} {g : am_J} {τ : am_T} {Q : am_Q} {x0 x1 : Value} {a b : Nat} {j : Int32} (ht : 18 ≤ τ.1 a ∧ τ.1 a ≤ 22) (hj : am_inb j (τ.2.1 a) = true) (hb : τ.1 b = am_elK (τ.1 a)) (hb2 : b < am_BG) : AW d 21 239 [x0, x1] (.ref b :: .int j :: .ref a :: st) σ ρ g τ Q = AW d 21 240 [x0, x1] (st) σ (am_u ρ a j.toNatClampNeg (some b)) g τ Q := aw_aas m21 d21_239 rfl ht hj hb hb2
theorem d21_240 : decode cX3_init 240 = .ok (.iinc 1 1, 3) := by decide +kernel
theorem s21_240r {d : Nat} {st : List Value} {σ : am_I} {ρ : am_R} {g : am_J} {τ : am_T} {Q : am_Q} {v : Int32} {u : Nat} : AW d 21 240 [.ref u, .int v] (st) σ ρ g τ Q = AW d 21 243 [.ref u, .int (v + 1)] (st) σ ρ g τ Q := aw_lc m21 d21_240 rfl rfl rfl
theorem d21_243 : decode cX3_init 243 = .ok (.goto (-19), 3) := by decide +kernel
theorem s21_243 {d : Nat} {st : List Value} {σ : am_I} {ρ : am_R} {g : am_J} {τ : am_T} {Q : am_Q} {x0 x1 : Value} : AW d 21 243 [x0, x1] (st) σ ρ g τ Q = AW d 21 224 [x0, x1] (st) σ ρ g τ Q := aw_lc m21 d21_243 rfl rfl rfl
theorem d21_246 : decode cX3_init 246 = .ok (.return_, 1) := by decide +kernel
theorem s21_246 {d : Nat} {σ : am_I} {ρ : am_R} {g : am_J} {τ : am_T} {Q : am_Q} {x0 x1 : Value} : AW d 21 246 [x0, x1] ([]) σ ρ g τ Q = Q none σ ρ g τ := aw_rv m21 d21_246 rfl
theorem d22_0 : decode cX3_copyFrom 0 = .ok (.aload_n 0, 1) := by decide +kernel
theorem s22_0 {d : Nat} {st : List Value} {σ : am_I} {ρ : am_R} {g : am_J} {τ : am_T} {Q : am_Q} {x1 x2 : Value} {v : Nat} : AW d 22 0 [.ref v, x1, x2] (st) σ ρ g τ Q = AW d 22 1 [.ref v, x1, x2] (.ref v :: st) σ ρ g τ Q := aw_lc m22 d22_0 rfl rfl rfl
theorem d22_1 : decode cX3_copyFrom 1 = .ok (.aload_n 1, 1) := by decide +kernel
theorem s22_1 {d : Nat} {st : List Value} {σ : am_I} {ρ : am_R} {g : am_J} {τ : am_T} {Q : am_Q} {x0 x2 : Value} {v : Nat} : AW d 22 1 [x0, .ref v, x2] (st) σ ρ g τ Q = AW d 22 2 [x0, .ref v, x2] (.ref v :: st) σ ρ g τ Q := aw_lc m22 d22_1 rfl rfl rfl
theorem d22_2 : decode cX3_copyFrom 2 = .ok (.getfield 9, 3) := by decide +kernel
theorem s22_2 {d : Nat} {st : List Value} {σ : am_I} {ρ : am_R} {g : am_J} {τ : am_T} {Q : am_Q} {x0 x1 x2 : Value} {a : Nat} (ht : τ.1 a = 3) : AW d 22 2 [x0, x1, x2] (.ref a :: st) σ ρ g τ Q = AW d 22 5 [x0, x1, x2] (.int (σ a 0) :: st) σ ρ g τ Q := aw_gi m22 d22_2 rfl rfl rfl ht
theorem d22_5 : decode cX3_copyFrom 5 = .ok (.putfield 9, 3) := by decide +kernel
theorem s22_5 {d : Nat} {st : List Value} {σ : am_I} {ρ : am_R} {g : am_J} {τ : am_T} {Q : am_Q} {x0 x1 x2 : Value} {a : Nat} {v : Int32} (ht : τ.1 a = 3) : AW d 22 5 [x0, x1, x2] (.int v :: .ref a :: st) σ ρ g τ Q = AW d 22 8 [x0, x1, x2] (st) (am_u σ a 0 v) ρ g τ Q := aw_pi m22 d22_5 rfl rfl (Or.inl rfl) rfl ht
theorem d22_8 : decode cX3_copyFrom 8 = .ok (.aload_n 0, 1) := by decide +kernel
theorem s22_8 {d : Nat} {st : List Value} {σ : am_I} {ρ : am_R} {g : am_J} {τ : am_T} {Q : am_Q} {x1 x2 : Value} {v : Nat} : AW d 22 8 [.ref v, x1, x2] (st) σ ρ g τ Q = AW d 22 9 [.ref v, x1, x2] (.ref v :: st) σ ρ g τ Q := aw_lc m22 d22_8 rfl rfl rfl
theorem d22_9 : decode cX3_copyFrom 9 = .ok (.aload_n 1, 1) := by decide +kernel
theorem s22_9 {d : Nat} {st : List Value} {σ : am_I} {ρ : am_R} {g : am_J} {τ : am_T} {Q : am_Q} {x0 x2 : Value} {v : Nat} : AW d 22 9 [x0, .ref v, x2] (st) σ ρ g τ Q = AW d 22 10 [x0, .ref v, x2] (.ref v :: st) σ ρ g τ Q := aw_lc m22 d22_9 rfl rfl rfl
theorem d22_10 : decode cX3_copyFrom 10 = .ok (.getfield 15, 3) := by decide +kernel
theorem s22_10 {d : Nat} {st : List Value} {σ : am_I} {ρ : am_R} {g : am_J} {τ : am_T} {Q : am_Q} {x0 x1 x2 : Value} {a : Nat} (ht : τ.1 a = 3) : AW d 22 10 [x0, x1, x2] (.ref a :: st) σ ρ g τ Q = AW d 22 13 [x0, x1, x2] (.int (σ a 1) :: st) σ ρ g τ Q := aw_gi m22 d22_10 rfl rfl rfl ht
theorem d22_13 : decode cX3_copyFrom 13 = .ok (.putfield 15, 3) := by decide +kernel
theorem s22_13 {d : Nat} {st : List Value} {σ : am_I} {ρ : am_R} {g : am_J} {τ : am_T} {Q : am_Q} {x0 x1 x2 : Value} {a : Nat} {v : Int32} (ht : τ.1 a = 3) : AW d 22 13 [x0, x1, x2] (.int v :: .ref a :: st) σ ρ g τ Q = AW d 22 16 [x0, x1, x2] (st) (am_u σ a 1 v) ρ g τ Q := aw_pi m22 d22_13 rfl rfl (Or.inl rfl) rfl ht
theorem d22_16 : decode cX3_copyFrom 16 = .ok (.aload_n 1, 1) := by decide +kernel
theorem s22_16 {d : Nat} {st : List Value} {σ : am_I} {ρ : am_R} {g : am_J} {τ : am_T} {Q : am_Q} {x0 x2 : Value} {v : Nat} : AW d 22 16 [x0, .ref v, x2] (st) σ ρ g τ Q = AW d 22 17 [x0, .ref v, x2] (.ref v :: st) σ ρ g τ Q := aw_lc m22 d22_16 rfl rfl rfl
theorem d22_17 : decode cX3_copyFrom 17 = .ok (.getfield 18, 3) := by decide +kernel
theorem s22_17 {d : Nat} {st : List Value} {σ : am_I} {ρ : am_R} {g : am_J} {τ : am_T} {Q : am_Q} {x0 x1 x2 : Value} {a : Nat} (ht : τ.1 a = 3) : AW d 22 17 [x0, x1, x2] (.ref a :: st) σ ρ g τ Q = AW d 22 20 [x0, x1, x2] (va_rf (ρ a 2) :: st) σ ρ g τ Q := aw_gr m22 d22_17 rfl rfl rfl ht
theorem d22_20 : decode cX3_copyFrom 20 = .ok (.iconst 0, 1) := by decide +kernel
theorem s22_20 {d : Nat} {st : List Value} {σ : am_I} {ρ : am_R} {g : am_J} {τ : am_T} {Q : am_Q} {x0 x1 x2 : Value} : AW d 22 20 [x0, x1, x2] (st) σ ρ g τ Q = AW d 22 21 [x0, x1, x2] (.int 0 :: st) σ ρ g τ Q := aw_lc m22 d22_20 rfl rfl rfl
theorem d22_21 : decode cX3_copyFrom 21 = .ok (.aload_n 0, 1) := by decide +kernel
theorem s22_21 {d : Nat} {st : List Value} {σ : am_I} {ρ : am_R} {g : am_J} {τ : am_T} {Q : am_Q} {x1 x2 : Value} {v : Nat} : AW d 22 21 [.ref v, x1, x2] (st) σ ρ g τ Q = AW d 22 22 [.ref v, x1, x2] (.ref v :: st) σ ρ g τ Q := aw_lc m22 d22_21 rfl rfl rfl
theorem d22_22 : decode cX3_copyFrom 22 = .ok (.getfield 18, 3) := by decide +kernel
theorem s22_22 {d : Nat} {st : List Value} {σ : am_I} {ρ : am_R} {g : am_J} {τ : am_T} {Q : am_Q} {x0 x1 x2 : Value} {a : Nat} (ht : τ.1 a = 3) : AW d 22 22 [x0, x1, x2] (.ref a :: st) σ ρ g τ Q = AW d 22 25 [x0, x1, x2] (va_rf (ρ a 2) :: st) σ ρ g τ Q := aw_gr m22 d22_22 rfl rfl rfl ht
theorem d22_25 : decode cX3_copyFrom 25 = .ok (.iconst 0, 1) := by decide +kernel
theorem s22_25 {d : Nat} {st : List Value} {σ : am_I} {ρ : am_R} {g : am_J} {τ : am_T} {Q : am_Q} {x0 x1 x2 : Value} : AW d 22 25 [x0, x1, x2] (st) σ ρ g τ Q = AW d 22 26 [x0, x1, x2] (.int 0 :: st) σ ρ g τ Q := aw_lc m22 d22_25 rfl rfl rfl
theorem d22_26 : decode cX3_copyFrom 26 = .ok (.iconst 3, 1) := by decide +kernel
theorem s22_26 {d : Nat} {st : List Value} {σ : am_I} {ρ : am_R} {g : am_J} {τ : am_T} {Q : am_Q} {x0 x1 x2 : Value} : AW d 22 26 [x0, x1, x2] (st) σ ρ g τ Q = AW d 22 27 [x0, x1, x2] (.int 3 :: st) σ ρ g τ Q := aw_lc m22 d22_26 rfl rfl rfl
theorem d22_27 : decode cX3_copyFrom 27 = .ok (.invokestatic 90, 3) := by decide +kernel
theorem s22_27 {d : Nat} {st : List Value} {σ : am_I} {ρ : am_R} {g : am_J} {τ : am_T} {Q : am_Q} {x0 x1 x2 : Value} {a b : Nat} {sp dp nn : Int32} (hs : st.length ≤ 4) (h : τ.1 a = 15 ∧ τ.1 b = 15 ∧ a < am_BG ∧ b < am_BG ∧ a ≠ b ∧ ¬ nn < 0 ∧ ¬ sp < 0 ∧ ¬ dp < 0 ∧ sp.toNatClampNeg + nn.toNatClampNeg ≤ τ.2.1 a ∧ dp.toNatClampNeg + nn.toNatClampNeg ≤ τ.2.1 b) : AW d 22 27 [x0, x1, x2] (.int nn :: .int dp :: .ref b :: .int sp :: .ref a :: st) σ ρ g τ Q = AW d 22 30 [x0, x1, x2] (st) (am_ur σ b (va_cpy (σ a) (σ b) sp.toNatClampNeg dp.toNatClampNeg nn.toNatClampNeg)) ρ g τ Q := aw_cpy m22 d22_27 rfl rfl hs h
theorem d22_30 : decode cX3_copyFrom 30 = .ok (.aload_n 1, 1) := by decide +kernel
theorem s22_30 {d : Nat} {st : List Value} {σ : am_I} {ρ : am_R} {g : am_J} {τ : am_T} {Q : am_Q} {x0 x2 : Value} {v : Nat} : AW d 22 30 [x0, .ref v, x2] (st) σ ρ g τ Q = AW d 22 31 [x0, .ref v, x2] (.ref v :: st) σ ρ g τ Q := aw_lc m22 d22_30 rfl rfl rfl
theorem d22_31 : decode cX3_copyFrom 31 = .ok (.getfield 22, 3) := by decide +kernel
theorem s22_31 {d : Nat} {st : List Value} {σ : am_I} {ρ : am_R} {g : am_J} {τ : am_T} {Q : am_Q} {x0 x1 x2 : Value} {a : Nat} (ht : τ.1 a = 3) : AW d 22 31 [x0, x1, x2] (.ref a :: st) σ ρ g τ Q = AW d 22 34 [x0, x1, x2] (va_rf (ρ a 3) :: st) σ ρ g τ Q := aw_gr m22 d22_31 rfl rfl rfl ht
theorem d22_34 : decode cX3_copyFrom 34 = .ok (.iconst 0, 1) := by decide +kernel
theorem s22_34 {d : Nat} {st : List Value} {σ : am_I} {ρ : am_R} {g : am_J} {τ : am_T} {Q : am_Q} {x0 x1 x2 : Value} : AW d 22 34 [x0, x1, x2] (st) σ ρ g τ Q = AW d 22 35 [x0, x1, x2] (.int 0 :: st) σ ρ g τ Q := aw_lc m22 d22_34 rfl rfl rfl
theorem d22_35 : decode cX3_copyFrom 35 = .ok (.aload_n 0, 1) := by decide +kernel
theorem s22_35 {d : Nat} {st : List Value} {σ : am_I} {ρ : am_R} {g : am_J} {τ : am_T} {Q : am_Q} {x1 x2 : Value} {v : Nat} : AW d 22 35 [.ref v, x1, x2] (st) σ ρ g τ Q = AW d 22 36 [.ref v, x1, x2] (.ref v :: st) σ ρ g τ Q := aw_lc m22 d22_35 rfl rfl rfl
theorem d22_36 : decode cX3_copyFrom 36 = .ok (.getfield 22, 3) := by decide +kernel
theorem s22_36 {d : Nat} {st : List Value} {σ : am_I} {ρ : am_R} {g : am_J} {τ : am_T} {Q : am_Q} {x0 x1 x2 : Value} {a : Nat} (ht : τ.1 a = 3) : AW d 22 36 [x0, x1, x2] (.ref a :: st) σ ρ g τ Q = AW d 22 39 [x0, x1, x2] (va_rf (ρ a 3) :: st) σ ρ g τ Q := aw_gr m22 d22_36 rfl rfl rfl ht
theorem d22_39 : decode cX3_copyFrom 39 = .ok (.iconst 0, 1) := by decide +kernel
theorem s22_39 {d : Nat} {st : List Value} {σ : am_I} {ρ : am_R} {g : am_J} {τ : am_T} {Q : am_Q} {x0 x1 x2 : Value} : AW d 22 39 [x0, x1, x2] (st) σ ρ g τ Q = AW d 22 40 [x0, x1, x2] (.int 0 :: st) σ ρ g τ Q := aw_lc m22 d22_39 rfl rfl rfl
theorem d22_40 : decode cX3_copyFrom 40 = .ok (.bipush 12, 2) := by decide +kernel
theorem s22_40 {d : Nat} {st : List Value} {σ : am_I} {ρ : am_R} {g : am_J} {τ : am_T} {Q : am_Q} {x0 x1 x2 : Value} : AW d 22 40 [x0, x1, x2] (st) σ ρ g τ Q = AW d 22 42 [x0, x1, x2] (.int 12 :: st) σ ρ g τ Q := aw_lc m22 d22_40 rfl rfl rfl
theorem d22_42 : decode cX3_copyFrom 42 = .ok (.invokestatic 90, 3) := by decide +kernel
theorem s22_42 {d : Nat} {st : List Value} {σ : am_I} {ρ : am_R} {g : am_J} {τ : am_T} {Q : am_Q} {x0 x1 x2 : Value} {a b : Nat} {sp dp nn : Int32} (hs : st.length ≤ 4) (h : τ.1 a = 15 ∧ τ.1 b = 15 ∧ a < am_BG ∧ b < am_BG ∧ a ≠ b ∧ ¬ nn < 0 ∧ ¬ sp < 0 ∧ ¬ dp < 0 ∧ sp.toNatClampNeg + nn.toNatClampNeg ≤ τ.2.1 a ∧ dp.toNatClampNeg + nn.toNatClampNeg ≤ τ.2.1 b) : AW d 22 42 [x0, x1, x2] (.int nn :: .int dp :: .ref b :: .int sp :: .ref a :: st) σ ρ g τ Q = AW d 22 45 [x0, x1, x2] (st) (am_ur σ b (va_cpy (σ a) (σ b) sp.toNatClampNeg dp.toNatClampNeg nn.toNatClampNeg)) ρ g τ Q := aw_cpy m22 d22_42 rfl rfl hs h
theorem d22_45 : decode cX3_copyFrom 45 = .ok (.aload_n 1, 1) := by decide +kernel
theorem s22_45 {d : Nat} {st : List Value} {σ : am_I} {ρ : am_R} {g : am_J} {τ : am_T} {Q : am_Q} {x0 x2 : Value} {v : Nat} : AW d 22 45 [x0, .ref v, x2] (st) σ ρ g τ Q = AW d 22 46 [x0, .ref v, x2] (.ref v :: st) σ ρ g τ Q := aw_lc m22 d22_45 rfl rfl rfl
theorem d22_46 : decode cX3_copyFrom 46 = .ok (.getfield 25, 3) := by decide +kernel
theorem s22_46 {d : Nat} {st : List Value} {σ : am_I} {ρ : am_R} {g : am_J} {τ : am_T} {Q : am_Q} {x0 x1 x2 : Value} {a : Nat} (ht : τ.1 a = 3) : AW d 22 46 [x0, x1, x2] (.ref a :: st) σ ρ g τ Q = AW d 22 49 [x0, x1, x2] (va_rf (ρ a 4) :: st) σ ρ g τ Q := aw_gr m22 d22_46 rfl rfl rfl ht
theorem d22_49 : decode cX3_copyFrom 49 = .ok (.iconst 0, 1) := by decide +kernel
theorem s22_49 {d : Nat} {st : List Value} {σ : am_I} {ρ : am_R} {g : am_J} {τ : am_T} {Q : am_Q} {x0 x1 x2 : Value} : AW d 22 49 [x0, x1, x2] (st) σ ρ g τ Q = AW d 22 50 [x0, x1, x2] (.int 0 :: st) σ ρ g τ Q := aw_lc m22 d22_49 rfl rfl rfl
theorem d22_50 : decode cX3_copyFrom 50 = .ok (.aload_n 0, 1) := by decide +kernel
theorem s22_50 {d : Nat} {st : List Value} {σ : am_I} {ρ : am_R} {g : am_J} {τ : am_T} {Q : am_Q} {x1 x2 : Value} {v : Nat} : AW d 22 50 [.ref v, x1, x2] (st) σ ρ g τ Q = AW d 22 51 [.ref v, x1, x2] (.ref v :: st) σ ρ g τ Q := aw_lc m22 d22_50 rfl rfl rfl
theorem d22_51 : decode cX3_copyFrom 51 = .ok (.getfield 25, 3) := by decide +kernel
theorem s22_51 {d : Nat} {st : List Value} {σ : am_I} {ρ : am_R} {g : am_J} {τ : am_T} {Q : am_Q} {x0 x1 x2 : Value} {a : Nat} (ht : τ.1 a = 3) : AW d 22 51 [x0, x1, x2] (.ref a :: st) σ ρ g τ Q = AW d 22 54 [x0, x1, x2] (va_rf (ρ a 4) :: st) σ ρ g τ Q := aw_gr m22 d22_51 rfl rfl rfl ht
theorem d22_54 : decode cX3_copyFrom 54 = .ok (.iconst 0, 1) := by decide +kernel
theorem s22_54 {d : Nat} {st : List Value} {σ : am_I} {ρ : am_R} {g : am_J} {τ : am_T} {Q : am_Q} {x0 x1 x2 : Value} : AW d 22 54 [x0, x1, x2] (st) σ ρ g τ Q = AW d 22 55 [x0, x1, x2] (.int 0 :: st) σ ρ g τ Q := aw_lc m22 d22_54 rfl rfl rfl
theorem d22_55 : decode cX3_copyFrom 55 = .ok (.iconst 5, 1) := by decide +kernel
theorem s22_55 {d : Nat} {st : List Value} {σ : am_I} {ρ : am_R} {g : am_J} {τ : am_T} {Q : am_Q} {x0 x1 x2 : Value} : AW d 22 55 [x0, x1, x2] (st) σ ρ g τ Q = AW d 22 56 [x0, x1, x2] (.int 5 :: st) σ ρ g τ Q := aw_lc m22 d22_55 rfl rfl rfl
theorem d22_56 : decode cX3_copyFrom 56 = .ok (.invokestatic 90, 3) := by decide +kernel
theorem s22_56 {d : Nat} {st : List Value} {σ : am_I} {ρ : am_R} {g : am_J} {τ : am_T} {Q : am_Q} {x0 x1 x2 : Value} {a b : Nat} {sp dp nn : Int32} (hs : st.length ≤ 4) (h : τ.1 a = 15 ∧ τ.1 b = 15 ∧ a < am_BG ∧ b < am_BG ∧ a ≠ b ∧ ¬ nn < 0 ∧ ¬ sp < 0 ∧ ¬ dp < 0 ∧ sp.toNatClampNeg + nn.toNatClampNeg ≤ τ.2.1 a ∧ dp.toNatClampNeg + nn.toNatClampNeg ≤ τ.2.1 b) : AW d 22 56 [x0, x1, x2] (.int nn :: .int dp :: .ref b :: .int sp :: .ref a :: st) σ ρ g τ Q = AW d 22 59 [x0, x1, x2] (st) (am_ur σ b (va_cpy (σ a) (σ b) sp.toNatClampNeg dp.toNatClampNeg nn.toNatClampNeg)) ρ g τ Q := aw_cpy m22 d22_56 rfl rfl hs h
theorem d22_59 : decode cX3_copyFrom 59 = .ok (.aload_n 0, 1) := by decide +kernel
theorem s22_59 {d : Nat} {st : List Value} {σ : am_I} {ρ : am_R} {g : am_J} {τ : am_T} {Q : am_Q} {x1 x2 : Value} {v : Nat} : AW d 22 59 [.ref v, x1, x2] (st) σ ρ g τ Q = AW d 22 60 [.ref v, x1, x2] (.ref v :: st) σ ρ g τ Q := aw_lc m22 d22_59 rfl rfl rfl
theorem d22_60 : decode cX3_copyFrom 60 = .ok (.aload_n 1, 1) := by decide +kernel
theorem s22_60 {d : Nat} {st : List Value} {σ : am_I} {ρ : am_R} {g : am_J} {τ : am_T} {Q : am_Q} {x0 x2 : Value} {v : Nat} : AW d 22 60 [x0, .ref v, x2] (st) σ ρ g τ Q = AW d 22 61 [x0, .ref v, x2] (.ref v :: st) σ ρ g τ Q := aw_lc m22 d22_60 rfl rfl rfl
theorem d22_61 : decode cX3_copyFrom 61 = .ok (.getfield 34, 3) := by decide +kernel
theorem s22_61 {d : Nat} {st : List Value} {σ : am_I} {ρ : am_R} {g : am_J} {τ : am_T} {Q : am_Q} {x0 x1 x2 : Value} {a : Nat} (ht : τ.1 a = 3) : AW d 22 61 [x0, x1, x2] (.ref a :: st) σ ρ g τ Q = AW d 22 64 [x0, x1, x2] (.int (σ a 6) :: st) σ ρ g τ Q := aw_gi m22 d22_61 rfl rfl rfl ht
theorem d22_64 : decode cX3_copyFrom 64 = .ok (.putfield 34, 3) := by decide +kernel
theorem s22_64 {d : Nat} {st : List Value} {σ : am_I} {ρ : am_R} {g : am_J} {τ : am_T} {Q : am_Q} {x0 x1 x2 : Value} {a : Nat} {v : Int32} (ht : τ.1 a = 3) : AW d 22 64 [x0, x1, x2] (.int v :: .ref a :: st) σ ρ g τ Q = AW d 22 67 [x0, x1, x2] (st) (am_u σ a 6 v) ρ g τ Q := aw_pi m22 d22_64 rfl rfl (Or.inl rfl) rfl ht
theorem d22_67 : decode cX3_copyFrom 67 = .ok (.iconst 0, 1) := by decide +kernel
theorem s22_67 {d : Nat} {st : List Value} {σ : am_I} {ρ : am_R} {g : am_J} {τ : am_T} {Q : am_Q} {x0 x1 x2 : Value} : AW d 22 67 [x0, x1, x2] (st) σ ρ g τ Q = AW d 22 68 [x0, x1, x2] (.int 0 :: st) σ ρ g τ Q := aw_lc m22 d22_67 rfl rfl rfl
theorem d22_68 : decode cX3_copyFrom 68 = .ok (.istore_n 2, 1) := by decide +kernel
theorem s22_68r {d : Nat} {st : List Value} {σ : am_I} {ρ : am_R} {g : am_J} {τ : am_T} {Q : am_Q} {x0 x2 : Value} {v : Int32} {u : Nat} : AW d 22 68 [x0, .ref u, x2] (.int v :: st) σ ρ g τ Q = AW d 22 69 [x0, .ref u, .int v] (st) σ ρ g τ Q := aw_lc m22 d22_68 rfl rfl rfl
theorem d22_69 : decode cX3_copyFrom 69 = .ok (.iload_n 2, 1) := by decide +kernel
theorem s22_69 {d : Nat} {st : List Value} {σ : am_I} {ρ : am_R} {g : am_J} {τ : am_T} {Q : am_Q} {x0 x1 : Value} {v : Int32} : AW d 22 69 [x0, x1, .int v] (st) σ ρ g τ Q = AW d 22 70 [x0, x1, .int v] (.int v :: st) σ ρ g τ Q := aw_lc m22 d22_69 rfl rfl rfl
theorem d22_70 : decode cX3_copyFrom 70 = .ok (.aload_n 0, 1) := by decide +kernel
theorem s22_70 {d : Nat} {st : List Value} {σ : am_I} {ρ : am_R} {g : am_J} {τ : am_T} {Q : am_Q} {x1 x2 : Value} {v : Nat} : AW d 22 70 [.ref v, x1, x2] (st) σ ρ g τ Q = AW d 22 71 [.ref v, x1, x2] (.ref v :: st) σ ρ g τ Q := aw_lc m22 d22_70 rfl rfl rfl
theorem d22_71 : decode cX3_copyFrom 71 = .ok (.getfield 34, 3) := by decide +kernel
theorem s22_71 {d : Nat} {st : List Value} {σ : am_I} {ρ : am_R} {g : am_J} {τ : am_T} {Q : am_Q} {x0 x1 x2 : Value} {a : Nat} (ht : τ.1 a = 3) : AW d 22 71 [x0, x1, x2] (.ref a :: st) σ ρ g τ Q = AW d 22 74 [x0, x1, x2] (.int (σ a 6) :: st) σ ρ g τ Q := aw_gi m22 d22_71 rfl rfl rfl ht
theorem d22_74 : decode cX3_copyFrom 74 = .ok (.if_icmp .ge 24, 3) := by decide +kernel
theorem s22_74 {d : Nat} {st : List Value} {σ : am_I} {ρ : am_R} {g : am_J} {τ : am_T} {Q : am_Q} {x0 x1 x2 : Value} {v w : Int32} : AW d 22 74 [x0, x1, x2] (.int w :: .int v :: st) σ ρ g τ Q = if w ≤ v then AW d 22 98 [x0, x1, x2] (st) σ ρ g τ Q else AW d 22 77 [x0, x1, x2] (st) σ ρ g τ Q := aw_br m22 d22_74 rfl rfl rfl
theorem d22_77 : decode cX3_copyFrom 77 = .ok (.aload_n 0, 1) := by decide +kernel
theorem s22_77 {d : Nat} {st : List Value} {σ : am_I} {ρ : am_R} {g : am_J} {τ : am_T} {Q : am_Q} {x1 x2 : Value} {v : Nat} : AW d 22 77 [.ref v, x1, x2] (st) σ ρ g τ Q = AW d 22 78 [.ref v, x1, x2] (.ref v :: st) σ ρ g τ Q := aw_lc m22 d22_77 rfl rfl rfl
theorem d22_78 : decode cX3_copyFrom 78 = .ok (.getfield 30, 3) := by decide +kernel
theorem s22_78 {d : Nat} {st : List Value} {σ : am_I} {ρ : am_R} {g : am_J} {τ : am_T} {Q : am_Q} {x0 x1 x2 : Value} {a : Nat} (ht : τ.1 a = 3) : AW d 22 78 [x0, x1, x2] (.ref a :: st) σ ρ g τ Q = AW d 22 81 [x0, x1, x2] (va_rf (ρ a 5) :: st) σ ρ g τ Q := aw_gr m22 d22_78 rfl rfl rfl ht
theorem d22_81 : decode cX3_copyFrom 81 = .ok (.iload_n 2, 1) := by decide +kernel
theorem s22_81 {d : Nat} {st : List Value} {σ : am_I} {ρ : am_R} {g : am_J} {τ : am_T} {Q : am_Q} {x0 x1 : Value} {v : Int32} : AW d 22 81 [x0, x1, .int v] (st) σ ρ g τ Q = AW d 22 82 [x0, x1, .int v] (.int v :: st) σ ρ g τ Q := aw_lc m22 d22_81 rfl rfl rfl
theorem d22_82 : decode cX3_copyFrom 82 = .ok (.aaload, 1) := by decide +kernel
theorem s22_82 {d : Nat} {st : List Value} {σ : am_I} {ρ : am_R} {g : am_J} {τ : am_T} {Q : am_Q} {x0 x1 x2 : Value} {a : Nat} {j : Int32} (ht : 18 ≤ τ.1 a ∧ τ.1 a ≤ 22) (hj : am_inb j (τ.2.1 a) = true) : AW d 22 82 [x0, x1, x2] (.int j :: .ref a :: st) σ ρ g τ Q = AW d 22 83 [x0, x1, x2] (va_rf (ρ a j.toNatClampNeg) :: st) σ ρ g τ Q := aw_aal m22 d22_82 rfl ht hj
theorem d22_83 : decode cX3_copyFrom 83 = .ok (.aload_n 1, 1) := by decide +kernel
theorem s22_83 {d : Nat} {st : List Value} {σ : am_I} {ρ : am_R} {g : am_J} {τ : am_T} {Q : am_Q} {x0 x2 : Value} {v : Nat} : AW d 22 83 [x0, .ref v, x2] (st) σ ρ g τ Q = AW d 22 84 [x0, .ref v, x2] (.ref v :: st) σ ρ g τ Q := aw_lc m22 d22_83 rfl rfl rfl
theorem d22_84 : decode cX3_copyFrom 84 = .ok (.getfield 30, 3) := by decide +kernel
theorem s22_84 {d : Nat} {st : List Value} {σ : am_I} {ρ : am_R} {g : am_J} {τ : am_T} {Q : am_Q} {x0 x1 x2 : Value} {a : Nat} (ht : τ.1 a = 3) : AW d 22 84 [x0, x1, x2] (.ref a :: st) σ ρ g τ Q = AW d 22 87 [x0, x1, x2] (va_rf (ρ a 5) :: st) σ ρ g τ Q := aw_gr m22 d22_84 rfl rfl rfl ht
theorem d22_87 : decode cX3_copyFrom 87 = .ok (.iload_n 2, 1) := by decide +kernel
theorem s22_87 {d : Nat} {st : List Value} {σ : am_I} {ρ : am_R} {g : am_J} {τ : am_T} {Q : am_Q} {x0 x1 : Value} {v : Int32} : AW d 22 87 [x0, x1, .int v] (st) σ ρ g τ Q = AW d 22 88 [x0, x1, .int v] (.int v :: st) σ ρ g τ Q := aw_lc m22 d22_87 rfl rfl rfl
theorem d22_88 : decode cX3_copyFrom 88 = .ok (.aaload, 1) := by decide +kernel
theorem s22_88 {d : Nat} {st : List Value} {σ : am_I} {ρ : am_R} {g : am_J} {τ : am_T} {Q : am_Q} {x0 x1 x2 : Value} {a : Nat} {j : Int32} (ht : 18 ≤ τ.1 a ∧ τ.1 a ≤ 22) (hj : am_inb j (τ.2.1 a) = true) : AW d 22 88 [x0, x1, x2] (.int j :: .ref a :: st) σ ρ g τ Q = AW d 22 89 [x0, x1, x2] (va_rf (ρ a j.toNatClampNeg) :: st) σ ρ g τ Q := aw_aal m22 d22_88 rfl ht hj
theorem d22_89 : decode cX3_copyFrom 89 = .ok (.invokevirtual 96, 3) := by decide +kernel
theorem s22_89 {d : Nat} {st : List Value} {σ : am_I} {ρ : am_R} {g : am_J} {τ : am_T} {Q : am_Q} {x0 x1 x2 : Value} {p0 : Nat} {p1 : Nat} (ht : τ.1 p0 = 7) (hs : st.length ≤ 4) : AW (d + 1) 22 89 [x0, x1, x2] (.ref p1 :: .ref p0 :: st) σ ρ g τ Q = AW d 62 0 [.ref p0, .ref p1] [] σ ρ g τ (fun r9 σ ρ g τ => AW (d + 1) 22 92 [x0, x1, x2] (r9.toList ++ st) σ ρ g τ Q) := aw_cv m22 d22_89 rfl m62 rfl rfl (by decide) en62 ok62 rfl ht hs
theorem d22_92 : decode cX3_copyFrom 92 = .ok (.iinc 2 1, 3) := by decide +kernel
theorem s22_92r {d : Nat} {st : List Value} {σ : am_I} {ρ : am_R} {g : am_J} {τ : am_T} {Q : am_Q} {x0 : Value} {v : Int32} {u : Nat} : AW d 22 92 [x0, .ref u, .int v] (st) σ ρ g τ Q = AW d 22 95 [x0, .ref u, .int (v + 1)] (st) σ ρ g τ Q := aw_lc m22 d22_92 rfl rfl rfl
theorem d22_95 : decode cX3_copyFrom 95 = .ok (.goto (-26), 3) := by decide +kernel
theorem s22_95 {d : Nat} {st : List Value} {σ : am_I} {ρ : am_R} {g : am_J} {τ : am_T} {Q : am_Q} {x0 x1 x2 : Value} : AW d 22 95 [x0, x1, x2] (st) σ ρ g τ Q = AW d 22 69 [x0, x1, x2] (st) σ ρ g τ Q := aw_lc m22 d22_95 rfl rfl rfl
theorem d22_98 : decode cX3_copyFrom 98 = .ok (.aload_n 0, 1) := by decide +kernel
theorem s22_98 {d : Nat} {st : List Value} {σ : am_I} {ρ : am_R} {g : am_J} {τ : am_T} {Q : am_Q} {x1 x2 : Value} {v : Nat} : AW d 22 98 [.ref v, x1, x2] (st) σ ρ g τ Q = AW d 22 99 [.ref v, x1, x2] (.ref v :: st) σ ρ g τ Q := aw_lc m22 d22_98 rfl rfl rfl
theorem d22_99 : decode cX3_copyFrom 99 = .ok (.aload_n 1, 1) := by decide +kernel
theorem s22_99 {d : Nat} {st : List Value} {σ : am_I} {ρ : am_R} {g : am_J} {τ : am_T} {Q : am_Q} {x0 x2 : Value} {v : Nat} : AW d 22 99 [x0, .ref v, x2] (st) σ ρ g τ Q = AW d 22 100 [x0, .ref v, x2] (.ref v :: st) σ ρ g τ Q := aw_lc m22 d22_99 rfl rfl rfl
theorem d22_100 : decode cX3_copyFrom 100 = .ok (.getfield 43, 3) := by decide +kernel
theorem s22_100 {d : Nat} {st : List Value} {σ : am_I} {ρ : am_R} {g : am_J} {τ : am_T} {Q : am_Q} {x0 x1 x2 : Value} {a : Nat} (ht : τ.1 a = 3) : AW d 22 100 [x0, x1, x2] (.ref a :: st) σ ρ g τ Q = AW d 22 103 [x0, x1, x2] (.int (σ a 8) :: st) σ ρ g τ Q := aw_gi m22 d22_100 rfl rfl rfl ht
theorem d22_103 : decode cX3_copyFrom 103 = .ok (.putfield 43, 3) := by decide +kernel
theorem s22_103 {d : Nat} {st : List Value} {σ : am_I} {ρ : am_R} {g : am_J} {τ : am_T} {Q : am_Q} {x0 x1 x2 : Value} {a : Nat} {v : Int32} (ht : τ.1 a = 3) : AW d 22 103 [x0, x1, x2] (.int v :: .ref a :: st) σ ρ g τ Q = AW d 22 106 [x0, x1, x2] (st) (am_u σ a 8 v) ρ g τ Q := aw_pi m22 d22_103 rfl rfl (Or.inl rfl) rfl ht
theorem d22_106 : decode cX3_copyFrom 106 = .ok (.iconst 0, 1) := by decide +kernel
theorem s22_106 {d : Nat} {st : List Value} {σ : am_I} {ρ : am_R} {g : am_J} {τ : am_T} {Q : am_Q} {x0 x1 x2 : Value} : AW d 22 106 [x0, x1, x2] (st) σ ρ g τ Q = AW d 22 107 [x0, x1, x2] (.int 0 :: st) σ ρ g τ Q := aw_lc m22 d22_106 rfl rfl rfl
theorem d22_107 : decode cX3_copyFrom 107 = .ok (.istore_n 2, 1) := by decide +kernel
theorem s22_107r {d : Nat} {st : List Value} {σ : am_I} {ρ : am_R} {g : am_J} {τ : am_T} {Q : am_Q} {x0 x2 : Value} {v : Int32} {u : Nat} : AW d 22 107 [x0, .ref u, x2] (.int v :: st) σ ρ g τ Q = AW d 22 108 [x0, .ref u, .int v] (st) σ ρ g τ Q := aw_lc m22 d22_107 rfl rfl rfl
theorem d22_108 : decode cX3_copyFrom 108 = .ok (.iload_n 2, 1) := by decide +kernel
theorem s22_108 {d : Nat} {st : List Value} {σ : am_I} {ρ : am_R} {g : am_J} {τ : am_T} {Q : am_Q} {x0 x1 : Value} {v : Int32} : AW d 22 108 [x0, x1, .int v] (st) σ ρ g τ Q = AW d 22 109 [x0, x1, .int v] (.int v :: st) σ ρ g τ Q := aw_lc m22 d22_108 rfl rfl rfl
theorem d22_109 : decode cX3_copyFrom 109 = .ok (.aload_n 0, 1) := by decide +kernel
theorem s22_109 {d : Nat} {st : List Value} {σ : am_I} {ρ : am_R} {g : am_J} {τ : am_T} {Q : am_Q} {x1 x2 : Value} {v : Nat} : AW d 22 109 [.ref v, x1, x2] (st) σ ρ g τ Q = AW d 22 110 [.ref v, x1, x2] (.ref v :: st) σ ρ g τ Q := aw_lc m22 d22_109 rfl rfl rfl
theorem d22_110 : decode cX3_copyFrom 110 = .ok (.getfield 43, 3) := by decide +kernel
theorem s22_110 {d : Nat} {st : List Value} {σ : am_I} {ρ : am_R} {g : am_J} {τ : am_T} {Q : am_Q} {x0 x1 x2 : Value} {a : Nat} (ht : τ.1 a = 3) : AW d 22 110 [x0, x1, x2] (.ref a :: st) σ ρ g τ Q = AW d 22 113 [x0, x1, x2] (.int (σ a 8) :: st) σ ρ g τ Q := aw_gi m22 d22_110 rfl rfl rfl ht
theorem d22_113 : decode cX3_copyFrom 113 = .ok (.if_icmp .ge 24, 3) := by decide +kernel
theorem s22_113 {d : Nat} {st : List Value} {σ : am_I} {ρ : am_R} {g : am_J} {τ : am_T} {Q : am_Q} {x0 x1 x2 : Value} {v w : Int32} : AW d 22 113 [x0, x1, x2] (.int w :: .int v :: st) σ ρ g τ Q = if w ≤ v then AW d 22 137 [x0, x1, x2] (st) σ ρ g τ Q else AW d 22 116 [x0, x1, x2] (st) σ ρ g τ Q := aw_br m22 d22_113 rfl rfl rfl
theorem d22_116 : decode cX3_copyFrom 116 = .ok (.aload_n 0, 1) := by decide +kernel
theorem s22_116 {d : Nat} {st : List Value} {σ : am_I} {ρ : am_R} {g : am_J} {τ : am_T} {Q : am_Q} {x1 x2 : Value} {v : Nat} : AW d 22 116 [.ref v, x1, x2] (st) σ ρ g τ Q = AW d 22 117 [.ref v, x1, x2] (.ref v :: st) σ ρ g τ Q := aw_lc m22 d22_116 rfl rfl rfl
theorem d22_117 : decode cX3_copyFrom 117 = .ok (.getfield 39, 3) := by decide +kernel
theorem s22_117 {d : Nat} {st : List Value} {σ : am_I} {ρ : am_R} {g : am_J} {τ : am_T} {Q : am_Q} {x0 x1 x2 : Value} {a : Nat} (ht : τ.1 a = 3) : AW d 22 117 [x0, x1, x2] (.ref a :: st) σ ρ g τ Q = AW d 22 120 [x0, x1, x2] (va_rf (ρ a 7) :: st) σ ρ g τ Q := aw_gr m22 d22_117 rfl rfl rfl ht
theorem d22_120 : decode cX3_copyFrom 120 = .ok (.iload_n 2, 1) := by decide +kernel
theorem s22_120 {d : Nat} {st : List Value} {σ : am_I} {ρ : am_R} {g : am_J} {τ : am_T} {Q : am_Q} {x0 x1 : Value} {v : Int32} : AW d 22 120 [x0, x1, .int v] (st) σ ρ g τ Q = AW d 22 121 [x0, x1, .int v] (.int v :: st) σ ρ g τ Q := aw_lc m22 d22_120 rfl rfl rfl
theorem d22_121 : decode cX3_copyFrom 121 = .ok (.aaload, 1) := by decide +kernel
theorem s22_121 {d : Nat} {st : List Value} {σ : am_I} {ρ : am_R} {g : am_J} {τ : am_T} {Q : am_Q} {x0 x1 x2 : Value} {a : Nat} {j : Int32} (ht : 18 ≤ τ.1 a ∧ τ.1 a ≤ 22) (hj : am_inb j (τ.2.1 a) = true) : AW d 22 121 [x0, x1, x2] (.int j :: .ref a :: st) σ ρ g τ Q = AW d 22 122 [x0, x1, x2] (va_rf (ρ a j.toNatClampNeg) :: st) σ ρ g τ Q := aw_aal m22 d22_121 rfl ht hj
theorem d22_122 : decode cX3_copyFrom 122 = .ok (.aload_n 1, 1) := by decide +kernel
theorem s22_122 {d : Nat} {st : List Value} {σ : am_I} {ρ : am_R} {g : am_J} {τ : am_T} {Q : am_Q} {x0 x2 : Value} {v : Nat} : AW d 22 122 [x0, .ref v, x2] (st) σ ρ g τ Q = AW d 22 123 [x0, .ref v, x2] (.ref v :: st) σ ρ g τ Q := aw_lc m22 d22_122 rfl rfl rfl
theorem d22_123 : decode cX3_copyFrom 123 = .ok (.getfield 39, 3) := by decide +kernel
theorem s22_123 {d : Nat} {st : List Value} {σ : am_I} {ρ : am_R} {g : am_J} {τ : am_T} {Q : am_Q} {x0 x1 x2 : Value} {a : Nat} (ht : τ.1 a = 3) : AW d 22 123 [x0, x1, x2] (.ref a :: st) σ ρ g τ Q = AW d 22 126 [x0, x1, x2] (va_rf (ρ a 7) :: st) σ ρ g τ Q := aw_gr m22 d22_123 rfl rfl rfl ht
theorem d22_126 : decode cX3_copyFrom 126 = .ok (.iload_n 2, 1) := by decide +kernel
theorem s22_126 {d : Nat} {st : List Value} {σ : am_I} {ρ : am_R} {g : am_J} {τ : am_T} {Q : am_Q} {x0 x1 : Value} {v : Int32} : AW d 22 126 [x0, x1, .int v] (st) σ ρ g τ Q = AW d 22 127 [x0, x1, .int v] (.int v :: st) σ ρ g τ Q := aw_lc m22 d22_126 rfl rfl rfl
theorem d22_127 : decode cX3_copyFrom 127 = .ok (.aaload, 1) := by decide +kernel
theorem s22_127 {d : Nat} {st : List Value} {σ : am_I} {ρ : am_R} {g : am_J} {τ : am_T} {Q : am_Q} {x0 x1 x2 : Value} {a : Nat} {j : Int32} (ht : 18 ≤ τ.1 a ∧ τ.1 a ≤ 22) (hj : am_inb j (τ.2.1 a) = true) : AW d 22 127 [x0, x1, x2] (.int j :: .ref a :: st) σ ρ g τ Q = AW d 22 128 [x0, x1, x2] (va_rf (ρ a j.toNatClampNeg) :: st) σ ρ g τ Q := aw_aal m22 d22_127 rfl ht hj
theorem d22_128 : decode cX3_copyFrom 128 = .ok (.invokevirtual 100, 3) := by decide +kernel
theorem s22_128 {d : Nat} {st : List Value} {σ : am_I} {ρ : am_R} {g : am_J} {τ : am_T} {Q : am_Q} {x0 x1 x2 : Value} {p0 : Nat} {p1 : Nat} (ht : τ.1 p0 = 1) (hs : st.length ≤ 4) : AW (d + 1) 22 128 [x0, x1, x2] (.ref p1 :: .ref p0 :: st) σ ρ g τ Q = AW d 9 0 [.ref p0, .ref p1] [] σ ρ g τ (fun r9 σ ρ g τ => AW (d + 1) 22 131 [x0, x1, x2] (r9.toList ++ st) σ ρ g τ Q) := aw_cv m22 d22_128 rfl m9 rfl rfl (by decide) en9 ok9 rfl ht hs
theorem d22_131 : decode cX3_copyFrom 131 = .ok (.iinc 2 1, 3) := by decide +kernel
theorem s22_131r {d : Nat} {st : List Value} {σ : am_I} {ρ : am_R} {g : am_J} {τ : am_T} {Q : am_Q} {x0 : Value} {v : Int32} {u : Nat} : AW d 22 131 [x0, .ref u, .int v] (st) σ ρ g τ Q = AW d 22 134 [x0, .ref u, .int (v + 1)] (st) σ ρ g τ Q := aw_lc m22 d22_131 rfl rfl rfl
theorem d22_134 : decode cX3_copyFrom 134 = .ok (.goto (-26), 3) := by decide +kernel
theorem s22_134 {d : Nat} {st : List Value} {σ : am_I} {ρ : am_R} {g : am_J} {τ : am_T} {Q : am_Q} {x0 x1 x2 : Value} : AW d 22 134 [x0, x1, x2] (st) σ ρ g τ Q = AW d 22 108 [x0, x1, x2] (st) σ ρ g τ Q := aw_lc m22 d22_134 rfl rfl rfl
theorem d22_137 : decode cX3_copyFrom 137 = .ok (.aload_n 0, 1) := by decide +kernel
theorem s22_137 {d : Nat} {st : List Value} {σ : am_I} {ρ : am_R} {g : am_J} {τ : am_T} {Q : am_Q} {x1 x2 : Value} {v : Nat} : AW d 22 137 [.ref v, x1, x2] (st) σ ρ g τ Q = AW d 22 138 [.ref v, x1, x2] (.ref v :: st) σ ρ g τ Q := aw_lc m22 d22_137 rfl rfl rfl
theorem d22_138 : decode cX3_copyFrom 138 = .ok (.aload_n 1, 1) := by decide +kernel
theorem s22_138 {d : Nat} {st : List Value} {σ : am_I} {ρ : am_R} {g : am_J} {τ : am_T} {Q : am_Q} {x0 x2 : Value} {v : Nat} : AW d 22 138 [x0, .ref v, x2] (st) σ ρ g τ Q = AW d 22 139 [x0, .ref v, x2] (.ref v :: st) σ ρ g τ Q := aw_lc m22 d22_138 rfl rfl rfl
theorem d22_139 : decode cX3_copyFrom 139 = .ok (.getfield 61, 3) := by decide +kernel
theorem s22_139 {d : Nat} {st : List Value} {σ : am_I} {ρ : am_R} {g : am_J} {τ : am_T} {Q : am_Q} {x0 x1 x2 : Value} {a : Nat} (ht : τ.1 a = 3) : AW d 22 139 [x0, x1, x2] (.ref a :: st) σ ρ g τ Q = AW d 22 142 [x0, x1, x2] (.int (σ a 11) :: st) σ ρ g τ Q := aw_gi m22 d22_139 rfl rfl rfl ht
theorem d22_142 : decode cX3_copyFrom 142 = .ok (.putfield 61, 3) := by decide +kernel
theorem s22_142 {d : Nat} {st : List Value} {σ : am_I} {ρ : am_R} {g : am_J} {τ : am_T} {Q : am_Q} {x0 x1 x2 : Value} {a : Nat} {v : Int32} (ht : τ.1 a = 3) : AW d 22 142 [x0, x1, x2] (.int v :: .ref a :: st) σ ρ g τ Q = AW d 22 145 [x0, x1, x2] (st) (am_u σ a 11 v) ρ g τ Q := aw_pi m22 d22_142 rfl rfl (Or.inl rfl) rfl ht
theorem d22_145 : decode cX3_copyFrom 145 = .ok (.iconst 0, 1) := by decide +kernel
theorem s22_145 {d : Nat} {st : List Value} {σ : am_I} {ρ : am_R} {g : am_J} {τ : am_T} {Q : am_Q} {x0 x1 x2 : Value} : AW d 22 145 [x0, x1, x2] (st) σ ρ g τ Q = AW d 22 146 [x0, x1, x2] (.int 0 :: st) σ ρ g τ Q := aw_lc m22 d22_145 rfl rfl rfl
theorem d22_146 : decode cX3_copyFrom 146 = .ok (.istore_n 2, 1) := by decide +kernel
theorem s22_146r {d : Nat} {st : List Value} {σ : am_I} {ρ : am_R} {g : am_J} {τ : am_T} {Q : am_Q} {x0 x2 : Value} {v : Int32} {u : Nat} : AW d 22 146 [x0, .ref u, x2] (.int v :: st) σ ρ g τ Q = AW d 22 147 [x0, .ref u, .int v] (st) σ ρ g τ Q := aw_lc m22 d22_146 rfl rfl rfl
theorem d22_147 : decode cX3_copyFrom 147 = .ok (.iload_n 2, 1) := by decide +kernel
theorem s22_147 {d : Nat} {st : List Value} {σ : am_I} {ρ : am_R} {g : am_J} {τ : am_T} {Q : am_Q} {x0 x1 : Value} {v : Int32} : AW d 22 147 [x0, x1, .int v] (st) σ ρ g τ Q = AW d 22 148 [x0, x1, .int v] (.int v :: st) σ ρ g τ Q := aw_lc m22 d22_147 rfl rfl rfl
theorem d22_148 : decode cX3_copyFrom 148 = .ok (.aload_n 0, 1) := by decide +kernel
theorem s22_148 {d : Nat} {st : List Value} {σ : am_I} {ρ : am_R} {g : am_J} {τ : am_T} {Q : am_Q} {x1 x2 : Value} {v : Nat} : AW d 22 148 [.ref v, x1, x2] (st) σ ρ g τ Q = AW d 22 149 [.ref v, x1, x2] (.ref v :: st) σ ρ g τ Q := aw_lc m22 d22_148 rfl rfl rfl
theorem d22_149 : decode cX3_copyFrom 149 = .ok (.getfield 61, 3) := by decide +kernel
theorem s22_149 {d : Nat} {st : List Value} {σ : am_I} {ρ : am_R} {g : am_J} {τ : am_T} {Q : am_Q} {x0 x1 x2 : Value} {a : Nat} (ht : τ.1 a = 3) : AW d 22 149 [x0, x1, x2] (.ref a :: st) σ ρ g τ Q = AW d 22 152 [x0, x1, x2] (.int (σ a 11) :: st) σ ρ g τ Q := aw_gi m22 d22_149 rfl rfl rfl ht
theorem d22_152 : decode cX3_copyFrom 152 = .ok (.if_icmp .ge 21, 3) := by decide +kernel
theorem s22_152 {d : Nat} {st : List Value} {σ : am_I} {ρ : am_R} {g : am_J} {τ : am_T} {Q : am_Q} {x0 x1 x2 : Value} {v w : Int32} : AW d 22 152 [x0, x1, x2] (.int w :: .int v :: st) σ ρ g τ Q = if w ≤ v then AW d 22 173 [x0, x1, x2] (st) σ ρ g τ Q else AW d 22 155 [x0, x1, x2] (st) σ ρ g τ Q := aw_br m22 d22_152 rfl rfl rfl
theorem d22_155 : decode cX3_copyFrom 155 = .ok (.aload_n 0, 1) := by decide +kernel
theorem s22_155 {d : Nat} {st : List Value} {σ : am_I} {ρ : am_R} {g : am_J} {τ : am_T} {Q : am_Q} {x1 x2 : Value} {v : Nat} : AW d 22 155 [.ref v, x1, x2] (st) σ ρ g τ Q = AW d 22 156 [.ref v, x1, x2] (.ref v :: st) σ ρ g τ Q := aw_lc m22 d22_155 rfl rfl rfl
theorem d22_156 : decode cX3_copyFrom 156 = .ok (.getfield 57, 3) := by decide +kernel
theorem s22_156 {d : Nat} {st : List Value} {σ : am_I} {ρ : am_R} {g : am_J} {τ : am_T} {Q : am_Q} {x0 x1 x2 : Value} {a : Nat} (ht : τ.1 a = 3) : AW d 22 156 [x0, x1, x2] (.ref a :: st) σ ρ g τ Q = AW d 22 159 [x0, x1, x2] (va_rf (ρ a 10) :: st) σ ρ g τ Q := aw_gr m22 d22_156 rfl rfl rfl ht
theorem d22_159 : decode cX3_copyFrom 159 = .ok (.iload_n 2, 1) := by decide +kernel
theorem s22_159 {d : Nat} {st : List Value} {σ : am_I} {ρ : am_R} {g : am_J} {τ : am_T} {Q : am_Q} {x0 x1 : Value} {v : Int32} : AW d 22 159 [x0, x1, .int v] (st) σ ρ g τ Q = AW d 22 160 [x0, x1, .int v] (.int v :: st) σ ρ g τ Q := aw_lc m22 d22_159 rfl rfl rfl
theorem d22_160 : decode cX3_copyFrom 160 = .ok (.aload_n 1, 1) := by decide +kernel
theorem s22_160 {d : Nat} {st : List Value} {σ : am_I} {ρ : am_R} {g : am_J} {τ : am_T} {Q : am_Q} {x0 x2 : Value} {v : Nat} : AW d 22 160 [x0, .ref v, x2] (st) σ ρ g τ Q = AW d 22 161 [x0, .ref v, x2] (.ref v :: st) σ ρ g τ Q := aw_lc m22 d22_160 rfl rfl rfl
theorem d22_161 : decode cX3_copyFrom 161 = .ok (.getfield 57, 3) := by decide +kernel
theorem s22_161 {d : Nat} {st : List Value} {σ : am_I} {ρ : am_R} {g : am_J} {τ : am_T} {Q : am_Q} {x0 x1 x2 : Value} {a : Nat} (ht : τ.1 a = 3) : AW d 22 161 [x0, x1, x2] (.ref a :: st) σ ρ g τ Q = AW d 22 164 [x0, x1, x2] (va_rf (ρ a 10) :: st) σ ρ g τ Q := aw_gr m22 d22_161 rfl rfl rfl ht
theorem d22_164 : decode cX3_copyFrom 164 = .ok (.iload_n 2, 1) := by decide +kernel
theorem s22_164 {d : Nat} {st : List Value} {σ : am_I} {ρ : am_R} {g : am_J} {τ : am_T} {Q : am_Q} {x0 x1 : Value} {v : Int32} : AW d 22 164 [x0, x1, .int v] (st) σ ρ g τ Q = AW d 22 165 [x0, x1, .int v] (.int v :: st) σ ρ g τ Q := aw_lc m22 d22_164 rfl rfl rfl
theorem d22_165 : decode cX3_copyFrom 165 = .ok (.aaload, 1) := by decide +kernel
theorem s22_165 {d : Nat} {st : List Value} {σ : am_I} {ρ : am_R} {g : am_J} {τ : am_T} {Q : am_Q} {x0 x1 x2 : Value} {a : Nat} {j : Int32} (ht : 18 ≤ τ.1 a ∧ τ.1 a ≤ 22) (hj : am_inb j (τ.2.1 a) = true) : AW d 22 165 [x0, x1, x2] (.int j :: .ref a :: st) σ ρ g τ Q = AW d 22 166 [x0, x1, x2] (va_rf (ρ a j.toNatClampNeg) :: st) σ ρ g τ Q := aw_aal m22 d22_165 rfl ht hj
theorem d22_166 : decode cX3_copyFrom 166 = .ok (.aastore, 1) := by decide +kernel
theorem s22_166 {d : Nat} {st : List Value} {σ : am_I} {ρ : am_R} {g : am_J} {τ : am_T} {Q : am_Q} {x0 x1 x2 : Value} {a b : Nat} {j : Int32} (ht : 18 ≤ τ.1 a ∧ τ.1 a ≤ 22) (hj : am_inb j (τ.2.1 a) = true) (hb : τ.1 b = am_elK (τ.1 a)) (hb2 : b < am_BG) : AW d 22 166 [x0, x1, x2] (.ref b :: .int j :: .ref a :: st) σ ρ g τ Q = AW d 22 167 [x0, x1, x2] (st) σ (am_u ρ a j.toNatClampNeg (some b)) g τ Q := aw_aas m22 d22_166 rfl ht hj hb hb2
theorem d22_167 : decode cX3_copyFrom 167 = .ok (.iinc 2 1, 3) := by decide +kernel
theorem s22_167r {d : Nat} {st : List Value} {σ : am_I} {ρ : am_R} {g : am_J} {τ : am_T} {Q : am_Q} {x0 : Value} {v : Int32} {u : Nat} : AW d 22 167 [x0, .ref u, .int v] (st) σ ρ g τ Q = AW d 22 170 [x0, .ref u, .int (v + 1)] (st) σ ρ g τ Q := aw_lc m22 d22_167 rfl rfl rfl
theorem d22_170 : decode cX3_copyFrom 170 = .ok (.goto (-23), 3) := by decide +kernel
theorem s22_170 {d : Nat} {st : List Value} {σ : am_I} {ρ : am_R} {g : am_J} {τ : am_T} {Q : am_Q} {x0 x1 x2 : Value} : AW d 22 170 [x0, x1, x2] (st) σ ρ g τ Q = AW d 22 147 [x0, x1, x2] (st) σ ρ g τ Q := aw_lc m22 d22_170 rfl rfl rfl
theorem d22_173 : decode cX3_copyFrom 173 = .ok (.aload_n 0, 1) := by decide +kernel
theorem s22_173 {d : Nat} {st : List Value} {σ : am_I} {ρ : am_R} {g : am_J} {τ : am_T} {Q : am_Q} {x1 x2 : Value} {v : Nat} : AW d 22 173 [.ref v, x1, x2] (st) σ ρ g τ Q = AW d 22 174 [.ref v, x1, x2] (.ref v :: st) σ ρ g τ Q := aw_lc m22 d22_173 rfl rfl rfl
theorem d22_174 : decode cX3_copyFrom 174 = .ok (.getfield 69, 3) := by decide +kernel
theorem s22_174 {d : Nat} {st : List Value} {σ : am_I} {ρ : am_R} {g : am_J} {τ : am_T} {Q : am_Q} {x0 x1 x2 : Value} {a : Nat} (ht : τ.1 a = 3) : AW d 22 174 [x0, x1, x2] (.ref a :: st) σ ρ g τ Q = AW d 22 177 [x0, x1, x2] (va_rf (ρ a 12) :: st) σ ρ g τ Q := aw_gr m22 d22_174 rfl rfl rfl ht
theorem d22_177 : decode cX3_copyFrom 177 = .ok (.aload_n 1, 1) := by decide +kernel
theorem s22_177 {d : Nat} {st : List Value} {σ : am_I} {ρ : am_R} {g : am_J} {τ : am_T} {Q : am_Q} {x0 x2 : Value} {v : Nat} : AW d 22 177 [x0, .ref v, x2] (st) σ ρ g τ Q = AW d 22 178 [x0, .ref v, x2] (.ref v :: st) σ ρ g τ Q := aw_lc m22 d22_177 rfl rfl rfl
theorem d22_178 : decode cX3_copyFrom 178 = .ok (.getfield 69, 3) := by decide +kernel
theorem s22_178 {d : Nat} {st : List Value} {σ : am_I} {ρ : am_R} {g : am_J} {τ : am_T} {Q : am_Q} {x0 x1 x2 : Value} {a : Nat} (ht : τ.1 a = 3) : AW d 22 178 [x0, x1, x2] (.ref a :: st) σ ρ g τ Q = AW d 22 181 [x0, x1, x2] (va_rf (ρ a 12) :: st) σ ρ g τ Q := aw_gr m22 d22_178 rfl rfl rfl ht
theorem d22_181 : decode cX3_copyFrom 181 = .ok (.invokevirtual 103, 3) := by decide +kernel
theorem s22_181 {d : Nat} {st : List Value} {σ : am_I} {ρ : am_R} {g : am_J} {τ : am_T} {Q : am_Q} {x0 x1 x2 : Value} {p0 : Nat} {p1 : Nat} (ht : τ.1 p0 = 4) (hs : st.length ≤ 4) : AW (d + 1) 22 181 [x0, x1, x2] (.ref p1 :: .ref p0 :: st) σ ρ g τ Q = AW d 49 0 [.ref p0, .ref p1] [] σ ρ g τ (fun r9 σ ρ g τ => AW (d + 1) 22 184 [x0, x1, x2] (r9.toList ++ st) σ ρ g τ Q) := aw_cv m22 d22_181 rfl m49 rfl rfl (by decide) en49 ok49 rfl ht hs
theorem d22_184 : decode cX3_copyFrom 184 = .ok (.aload_n 0, 1) := by decide +kernel
theorem s22_184 {d : Nat} {st : List Value} {σ : am_I} {ρ : am_R} {g : am_J} {τ : am_T} {Q : am_Q} {x1 x2 : Value} {v : Nat} : AW d 22 184 [.ref v, x1, x2] (st) σ ρ g τ Q = AW d 22 185 [.ref v, x1, x2] (.ref v :: st) σ ρ g τ Q := aw_lc m22 d22_184 rfl rfl rfl
theorem d22_185 : decode cX3_copyFrom 185 = .ok (.getfield 73, 3) := by decide +kernel
theorem s22_185 {d : Nat} {st : List Value} {σ : am_I} {ρ : am_R} {g : am_J} {τ : am_T} {Q : am_Q} {x0 x1 x2 : Value} {a : Nat} (ht : τ.1 a = 3) : AW d 22 185 [x0, x1, x2] (.ref a :: st) σ ρ g τ Q = AW d 22 188 [x0, x1, x2] (va_rf (ρ a 13) :: st) σ ρ g τ Q := aw_gr m22 d22_185 rfl rfl rfl ht
theorem d22_188 : decode cX3_copyFrom 188 = .ok (.aload_n 1, 1) := by decide +kernel
theorem s22_188 {d : Nat} {st : List Value} {σ : am_I} {ρ : am_R} {g : am_J} {τ : am_T} {Q : am_Q} {x0 x2 : Value} {v : Nat} : AW d 22 188 [x0, .ref v, x2] (st) σ ρ g τ Q = AW d 22 189 [x0, .ref v, x2] (.ref v :: st) σ ρ g τ Q := aw_lc m22 d22_188 rfl rfl rfl
theorem d22_189 : decode cX3_copyFrom 189 = .ok (.getfield 73, 3) := by decide +kernel
theorem s22_189 {d : Nat} {st : List Value} {σ : am_I} {ρ : am_R} {g : am_J} {τ : am_T} {Q : am_Q} {x0 x1 x2 : Value} {a : Nat} (ht : τ.1 a = 3) : AW d 22 189 [x0, x1, x2] (.ref a :: st) σ ρ g τ Q = AW d 22 192 [x0, x1, x2] (va_rf (ρ a 13) :: st) σ ρ g τ Q := aw_gr m22 d22_189 rfl rfl rfl ht
theorem d22_192 : decode cX3_copyFrom 192 = .ok (.invokevirtual 103, 3) := by decide +kernel
theorem s22_192 {d : Nat} {st : List Value} {σ : am_I} {ρ : am_R} {g : am_J} {τ : am_T} {Q : am_Q} {x0 x1 x2 : Value} {p0 : Nat} {p1 : Nat} (ht : τ.1 p0 = 4) (hs : st.length ≤ 4) : AW (d + 1) 22 192 [x0, x1, x2] (.ref p1 :: .ref p0 :: st) σ ρ g τ Q = AW d 49 0 [.ref p0, .ref p1] [] σ ρ g τ (fun r9 σ ρ g τ => AW (d + 1) 22 195 [x0, x1, x2] (r9.toList ++ st) σ ρ g τ Q) := aw_cv m22 d22_192 rfl m49 rfl rfl (by decide) en49 ok49 rfl ht hs
theorem d22_195 : decode cX3_copyFrom 195 = .ok (.aload_n 0, 1) := by decide +kernel
theorem s22_195 {d : Nat} {st : List Value} {σ : am_I} {ρ : am_R} {g : am_J} {τ : am_T} {Q : am_Q} {x1 x2 : Value} {v : Nat} : AW d 22 195 [.ref v, x1, x2] (st) σ ρ g τ Q = AW d 22 196 [.ref v, x1, x2] (.ref v :: st) σ ρ g τ Q := aw_lc m22 d22_195 rfl rfl rfl
theorem d22_196 : decode cX3_copyFrom 196 = .ok (.getfield 76, 3) := by decide +kernel
theorem s22_196 {d : Nat} {st : List Value} {σ : am_I} {ρ : am_R} {g : am_J} {τ : am_T} {Q : am_Q} {x0 x1 x2 : Value} {a : Nat} (ht : τ.1 a = 3) : AW d 22 196 [x0, x1, x2] (.ref a :: st) σ ρ g τ Q = AW d 22 199 [x0, x1, x2] (va_rf (ρ a 14) :: st) σ ρ g τ Q := aw_gr m22 d22_196 rfl rfl rfl ht
theorem d22_199 : decode cX3_copyFrom 199 = .ok (.aload_n 1, 1) := by decide +kernel
theorem s22_199 {d : Nat} {st : List Value} {σ : am_I} {ρ : am_R} {g : am_J} {τ : am_T} {Q : am_Q} {x0 x2 : Value} {v : Nat} : AW d 22 199 [x0, .ref v, x2] (st) σ ρ g τ Q = AW d 22 200 [x0, .ref v, x2] (.ref v :: st) σ ρ g τ Q := aw_lc m22 d22_199 rfl rfl rfl
theorem d22_200 : decode cX3_copyFrom 200 = .ok (.getfield 76, 3) := by decide +kernel
theorem s22_200 {d : Nat} {st : List Value} {σ : am_I} {ρ : am_R} {g : am_J} {τ : am_T} {Q : am_Q} {x0 x1 x2 : Value} {a : Nat} (ht : τ.1 a = 3) : AW d 22 200 [x0, x1, x2] (.ref a :: st) σ ρ g τ Q = AW d 22 203 [x0, x1, x2] (va_rf (ρ a 14) :: st) σ ρ g τ Q := aw_gr m22 d22_200 rfl rfl rfl ht
theorem d22_203 : decode cX3_copyFrom 203 = .ok (.invokevirtual 103, 3) := by decide +kernel
theorem s22_203 {d : Nat} {st : List Value} {σ : am_I} {ρ : am_R} {g : am_J} {τ : am_T} {Q : am_Q} {x0 x1 x2 : Value} {p0 : Nat} {p1 : Nat} (ht : τ.1 p0 = 4) (hs : st.length ≤ 4) : AW (d + 1) 22 203 [x0, x1, x2] (.ref p1 :: .ref p0 :: st) σ ρ g τ Q = AW d 49 0 [.ref p0, .ref p1] [] σ ρ g τ (fun r9 σ ρ g τ => AW (d + 1) 22 206 [x0, x1, x2] (r9.toList ++ st) σ ρ g τ Q) := aw_cv m22 d22_203 rfl m49 rfl rfl (by decide) en49 ok49 rfl ht hs
theorem d22_206 : decode cX3_copyFrom 206 = .ok (.aload_n 0, 1) := by decide +kernel
theorem s22_206 {d : Nat} {st : List Value} {σ : am_I} {ρ : am_R} {g : am_J} {τ : am_T} {Q : am_Q} {x1 x2 : Value} {v : Nat} : AW d 22 206 [.ref v, x1, x2] (st) σ ρ g τ Q = AW d 22 207 [.ref v, x1, x2] (.ref v :: st) σ ρ g τ Q := aw_lc m22 d22_206 rfl rfl rfl
theorem d22_207 : decode cX3_copyFrom 207 = .ok (.getfield 79, 3) := by decide +kernel
theorem s22_207 {d : Nat} {st : List Value} {σ : am_I} {ρ : am_R} {g : am_J} {τ : am_T} {Q : am_Q} {x0 x1 x2 : Value} {a : Nat} (ht : τ.1 a = 3) : AW d 22 207 [x0, x1, x2] (.ref a :: st) σ ρ g τ Q = AW d 22 210 [x0, x1, x2] (va_rf (ρ a 15) :: st) σ ρ g τ Q := aw_gr m22 d22_207 rfl rfl rfl ht
theorem d22_210 : decode cX3_copyFrom 210 = .ok (.aload_n 1, 1) := by decide +kernel
theorem s22_210 {d : Nat} {st : List Value} {σ : am_I} {ρ : am_R} {g : am_J} {τ : am_T} {Q : am_Q} {x0 x2 : Value} {v : Nat} : AW d 22 210 [x0, .ref v, x2] (st) σ ρ g τ Q = AW d 22 211 [x0, .ref v, x2] (.ref v :: st) σ ρ g τ Q := aw_lc m22 d22_210 rfl rfl rfl
theorem d22_211 : decode cX3_copyFrom 211 = .ok (.getfield 79, 3) := by decide +kernel
theorem s22_211 {d : Nat} {st : List Value} {σ : am_I} {ρ : am_R} {g : am_J} {τ : am_T} {Q : am_Q} {x0 x1 x2 : Value} {a : Nat} (ht : τ.1 a = 3) : AW d 22 211 [x0, x1, x2] (.ref a :: st) σ ρ g τ Q = AW d 22 214 [x0, x1, x2] (va_rf (ρ a 15) :: st) σ ρ g τ Q := aw_gr m22 d22_211 rfl rfl rfl ht
theorem d22_214 : decode cX3_copyFrom 214 = .ok (.invokevirtual 103, 3) := by decide +kernel
theorem s22_214 {d : Nat} {st : List Value} {σ : am_I} {ρ : am_R} {g : am_J} {τ : am_T} {Q : am_Q} {x0 x1 x2 : Value} {p0 : Nat} {p1 : Nat} (ht : τ.1 p0 = 4) (hs : st.length ≤ 4) : AW (d + 1) 22 214 [x0, x1, x2] (.ref p1 :: .ref p0 :: st) σ ρ g τ Q = AW d 49 0 [.ref p0, .ref p1] [] σ ρ g τ (fun r9 σ ρ g τ => AW (d + 1) 22 217 [x0, x1, x2] (r9.toList ++ st) σ ρ g τ Q) := aw_cv m22 d22_214 rfl m49 rfl rfl (by decide) en49 ok49 rfl ht hs
theorem d22_217 : decode cX3_copyFrom 217 = .ok (.return_, 1) := by decide +kernel
theorem s22_217 {d : Nat} {σ : am_I} {ρ : am_R} {g : am_J} {τ : am_T} {Q : am_Q} {x0 x1 x2 : Value} : AW d 22 217 [x0, x1, x2] ([]) σ ρ g τ Q = Q none σ ρ g τ := aw_rv m22 d22_217 rfl
theorem d23_0 : decode cX3_hasProvince 0 = .ok (.iload_n 1, 1) := by decide +kernel
theorem s23_0 {d : Nat} {st : List Value} {σ : am_I} {ρ : am_R} {g : am_J} {τ : am_T} {Q : am_Q} {x0 : Value} {v : Int32} : AW d 23 0 [x0, .int v] (st) σ ρ g τ Q = AW d 23 1 [x0, .int v] (.int v :: st) σ ρ g τ Q := aw_lc m23 d23_0 rfl rfl rfl
theorem d23_1 : decode cX3_hasProvince 1 = .ok (.iconst 0, 1) := by decide +kernel
theorem s23_1 {d : Nat} {st : List Value} {σ : am_I} {ρ : am_R} {g : am_J} {τ : am_T} {Q : am_Q} {x0 x1 : Value} : AW d 23 1 [x0, x1] (st) σ ρ g τ Q = AW d 23 2 [x0, x1] (.int 0 :: st) σ ρ g τ Q := aw_lc m23 d23_1 rfl rfl rfl
theorem d23_2 : decode cX3_hasProvince 2 = .ok (.aload_n 0, 1) := by decide +kernel
theorem s23_2 {d : Nat} {st : List Value} {σ : am_I} {ρ : am_R} {g : am_J} {τ : am_T} {Q : am_Q} {x1 : Value} {v : Nat} : AW d 23 2 [.ref v, x1] (st) σ ρ g τ Q = AW d 23 3 [.ref v, x1] (.ref v :: st) σ ρ g τ Q := aw_lc m23 d23_2 rfl rfl rfl
theorem d23_3 : decode cX3_hasProvince 3 = .ok (.getfield 34, 3) := by decide +kernel
theorem s23_3 {d : Nat} {st : List Value} {σ : am_I} {ρ : am_R} {g : am_J} {τ : am_T} {Q : am_Q} {x0 x1 : Value} {a : Nat} (ht : τ.1 a = 3) : AW d 23 3 [x0, x1] (.ref a :: st) σ ρ g τ Q = AW d 23 6 [x0, x1] (.int (σ a 6) :: st) σ ρ g τ Q := aw_gi m23 d23_3 rfl rfl rfl ht
theorem d23_6 : decode cX3_hasProvince 6 = .ok (.iconst 1, 1) := by decide +kernel
theorem s23_6 {d : Nat} {st : List Value} {σ : am_I} {ρ : am_R} {g : am_J} {τ : am_T} {Q : am_Q} {x0 x1 : Value} : AW d 23 6 [x0, x1] (st) σ ρ g τ Q = AW d 23 7 [x0, x1] (.int 1 :: st) σ ρ g τ Q := aw_lc m23 d23_6 rfl rfl rfl
theorem d23_7 : decode cX3_hasProvince 7 = .ok (.isub, 1) := by decide +kernel
theorem s23_7 {d : Nat} {st : List Value} {σ : am_I} {ρ : am_R} {g : am_J} {τ : am_T} {Q : am_Q} {x0 x1 : Value} {v w : Int32} : AW d 23 7 [x0, x1] (.int w :: .int v :: st) σ ρ g τ Q = AW d 23 8 [x0, x1] (.int (v - w) :: st) σ ρ g τ Q := aw_lc m23 d23_7 rfl rfl rfl
theorem d23_8 : decode cX3_hasProvince 8 = .ok (.invokestatic 106, 3) := by decide +kernel
theorem s23_8 {d : Nat} {st : List Value} {σ : am_I} {ρ : am_R} {g : am_J} {τ : am_T} {Q : am_Q} {x0 x1 : Value} {p0 : Int32} {p1 : Int32} {p2 : Int32} (hs : st.length ≤ 4) : AW (d + 1) 23 8 [x0, x1] (.int p2 :: .int p1 :: .int p0 :: st) σ ρ g τ Q = AW d 100 0 [.int p0, .int p1, .int p2] [] σ ρ g τ (fun r9 σ ρ g τ => AW (d + 1) 23 11 [x0, x1] (r9.toList ++ st) σ ρ g τ Q) := aw_cn m23 d23_8 rfl (by simp only [List.length_cons]; omega) rfl rfl en100 ok100 rfl hs
theorem d23_11 : decode cX3_hasProvince 11 = .ok (.ireturn, 1) := by decide +kernel
theorem s23_11 {d : Nat} {σ : am_I} {ρ : am_R} {g : am_J} {τ : am_T} {Q : am_Q} {x0 x1 : Value} {v : Int32} (hv : am_b01 v = true) : AW d 23 11 [x0, x1] ([.int v]) σ ρ g τ Q = Q (some (.int v)) σ ρ g τ := aw_rz m23 d23_11 rfl hv
theorem d24_0 : decode cX3_hasDebt 0 = .ok (.iload_n 1, 1) := by decide +kernel
theorem s24_0 {d : Nat} {st : List Value} {σ : am_I} {ρ : am_R} {g : am_J} {τ : am_T} {Q : am_Q} {x0 : Value} {v : Int32} : AW d 24 0 [x0, .int v] (st) σ ρ g τ Q = AW d 24 1 [x0, .int v] (.int v :: st) σ ρ g τ Q := aw_lc m24 d24_0 rfl rfl rfl
theorem d24_1 : decode cX3_hasDebt 1 = .ok (.iconst 0, 1) := by decide +kernel
theorem s24_1 {d : Nat} {st : List Value} {σ : am_I} {ρ : am_R} {g : am_J} {τ : am_T} {Q : am_Q} {x0 x1 : Value} : AW d 24 1 [x0, x1] (st) σ ρ g τ Q = AW d 24 2 [x0, x1] (.int 0 :: st) σ ρ g τ Q := aw_lc m24 d24_1 rfl rfl rfl
theorem d24_2 : decode cX3_hasDebt 2 = .ok (.aload_n 0, 1) := by decide +kernel
theorem s24_2 {d : Nat} {st : List Value} {σ : am_I} {ρ : am_R} {g : am_J} {τ : am_T} {Q : am_Q} {x1 : Value} {v : Nat} : AW d 24 2 [.ref v, x1] (st) σ ρ g τ Q = AW d 24 3 [.ref v, x1] (.ref v :: st) σ ρ g τ Q := aw_lc m24 d24_2 rfl rfl rfl
theorem d24_3 : decode cX3_hasDebt 3 = .ok (.getfield 43, 3) := by decide +kernel
theorem s24_3 {d : Nat} {st : List Value} {σ : am_I} {ρ : am_R} {g : am_J} {τ : am_T} {Q : am_Q} {x0 x1 : Value} {a : Nat} (ht : τ.1 a = 3) : AW d 24 3 [x0, x1] (.ref a :: st) σ ρ g τ Q = AW d 24 6 [x0, x1] (.int (σ a 8) :: st) σ ρ g τ Q := aw_gi m24 d24_3 rfl rfl rfl ht
theorem d24_6 : decode cX3_hasDebt 6 = .ok (.iconst 1, 1) := by decide +kernel
theorem s24_6 {d : Nat} {st : List Value} {σ : am_I} {ρ : am_R} {g : am_J} {τ : am_T} {Q : am_Q} {x0 x1 : Value} : AW d 24 6 [x0, x1] (st) σ ρ g τ Q = AW d 24 7 [x0, x1] (.int 1 :: st) σ ρ g τ Q := aw_lc m24 d24_6 rfl rfl rfl
theorem d24_7 : decode cX3_hasDebt 7 = .ok (.isub, 1) := by decide +kernel
theorem s24_7 {d : Nat} {st : List Value} {σ : am_I} {ρ : am_R} {g : am_J} {τ : am_T} {Q : am_Q} {x0 x1 : Value} {v w : Int32} : AW d 24 7 [x0, x1] (.int w :: .int v :: st) σ ρ g τ Q = AW d 24 8 [x0, x1] (.int (v - w) :: st) σ ρ g τ Q := aw_lc m24 d24_7 rfl rfl rfl
theorem d24_8 : decode cX3_hasDebt 8 = .ok (.invokestatic 106, 3) := by decide +kernel
theorem s24_8 {d : Nat} {st : List Value} {σ : am_I} {ρ : am_R} {g : am_J} {τ : am_T} {Q : am_Q} {x0 x1 : Value} {p0 : Int32} {p1 : Int32} {p2 : Int32} (hs : st.length ≤ 4) : AW (d + 1) 24 8 [x0, x1] (.int p2 :: .int p1 :: .int p0 :: st) σ ρ g τ Q = AW d 100 0 [.int p0, .int p1, .int p2] [] σ ρ g τ (fun r9 σ ρ g τ => AW (d + 1) 24 11 [x0, x1] (r9.toList ++ st) σ ρ g τ Q) := aw_cn m24 d24_8 rfl (by simp only [List.length_cons]; omega) rfl rfl en100 ok100 rfl hs
theorem d24_11 : decode cX3_hasDebt 11 = .ok (.ireturn, 1) := by decide +kernel
theorem s24_11 {d : Nat} {σ : am_I} {ρ : am_R} {g : am_J} {τ : am_T} {Q : am_Q} {x0 x1 : Value} {v : Int32} (hv : am_b01 v = true) : AW d 24 11 [x0, x1] ([.int v]) σ ρ g τ Q = Q (some (.int v)) σ ρ g τ := aw_rz m24 d24_11 rfl hv
theorem d25_0 : decode cX3_addDebt 0 = .ok (.aload_n 0, 1) := by decide +kernel
theorem s25_0 {d : Nat} {st : List Value} {σ : am_I} {ρ : am_R} {g : am_J} {τ : am_T} {Q : am_Q} {x1 x2 x3 x4 x5 : Value} {v : Nat} : AW d 25 0 [.ref v, x1, x2, x3, x4, x5] (st) σ ρ g τ Q = AW d 25 1 [.ref v, x1, x2, x3, x4, x5] (.ref v :: st) σ ρ g τ Q := aw_lc m25 d25_0 rfl rfl rfl
theorem d25_1 : decode cX3_addDebt 1 = .ok (.getfield 39, 3) := by decide +kernel
theorem s25_1 {d : Nat} {st : List Value} {σ : am_I} {ρ : am_R} {g : am_J} {τ : am_T} {Q : am_Q} {x0 x1 x2 x3 x4 x5 : Value} {a : Nat} (ht : τ.1 a = 3) : AW d 25 1 [x0, x1, x2, x3, x4, x5] (.ref a :: st) σ ρ g τ Q = AW d 25 4 [x0, x1, x2, x3, x4, x5] (va_rf (ρ a 7) :: st) σ ρ g τ Q := aw_gr m25 d25_1 rfl rfl rfl ht
theorem d25_4 : decode cX3_addDebt 4 = .ok (.aload_n 0, 1) := by decide +kernel
theorem s25_4 {d : Nat} {st : List Value} {σ : am_I} {ρ : am_R} {g : am_J} {τ : am_T} {Q : am_Q} {x1 x2 x3 x4 x5 : Value} {v : Nat} : AW d 25 4 [.ref v, x1, x2, x3, x4, x5] (st) σ ρ g τ Q = AW d 25 5 [.ref v, x1, x2, x3, x4, x5] (.ref v :: st) σ ρ g τ Q := aw_lc m25 d25_4 rfl rfl rfl
theorem d25_5 : decode cX3_addDebt 5 = .ok (.getfield 43, 3) := by decide +kernel
theorem s25_5 {d : Nat} {st : List Value} {σ : am_I} {ρ : am_R} {g : am_J} {τ : am_T} {Q : am_Q} {x0 x1 x2 x3 x4 x5 : Value} {a : Nat} (ht : τ.1 a = 3) : AW d 25 5 [x0, x1, x2, x3, x4, x5] (.ref a :: st) σ ρ g τ Q = AW d 25 8 [x0, x1, x2, x3, x4, x5] (.int (σ a 8) :: st) σ ρ g τ Q := aw_gi m25 d25_5 rfl rfl rfl ht
theorem d25_8 : decode cX3_addDebt 8 = .ok (.aaload, 1) := by decide +kernel
theorem s25_8 {d : Nat} {st : List Value} {σ : am_I} {ρ : am_R} {g : am_J} {τ : am_T} {Q : am_Q} {x0 x1 x2 x3 x4 x5 : Value} {a : Nat} {j : Int32} (ht : 18 ≤ τ.1 a ∧ τ.1 a ≤ 22) (hj : am_inb j (τ.2.1 a) = true) : AW d 25 8 [x0, x1, x2, x3, x4, x5] (.int j :: .ref a :: st) σ ρ g τ Q = AW d 25 9 [x0, x1, x2, x3, x4, x5] (va_rf (ρ a j.toNatClampNeg) :: st) σ ρ g τ Q := aw_aal m25 d25_8 rfl ht hj
theorem d25_9 : decode cX3_addDebt 9 = .ok (.iload_n 1, 1) := by decide +kernel
theorem s25_9 {d : Nat} {st : List Value} {σ : am_I} {ρ : am_R} {g : am_J} {τ : am_T} {Q : am_Q} {x0 x2 x3 x4 x5 : Value} {v : Int32} : AW d 25 9 [x0, .int v, x2, x3, x4, x5] (st) σ ρ g τ Q = AW d 25 10 [x0, .int v, x2, x3, x4, x5] (.int v :: st) σ ρ g τ Q := aw_lc m25 d25_9 rfl rfl rfl
theorem d25_10 : decode cX3_addDebt 10 = .ok (.iload_n 2, 1) := by decide +kernel
theorem s25_10 {d : Nat} {st : List Value} {σ : am_I} {ρ : am_R} {g : am_J} {τ : am_T} {Q : am_Q} {x0 x1 x3 x4 x5 : Value} {v : Int32} : AW d 25 10 [x0, x1, .int v, x3, x4, x5] (st) σ ρ g τ Q = AW d 25 11 [x0, x1, .int v, x3, x4, x5] (.int v :: st) σ ρ g τ Q := aw_lc m25 d25_10 rfl rfl rfl
theorem d25_11 : decode cX3_addDebt 11 = .ok (.iload_n 3, 1) := by decide +kernel
theorem s25_11 {d : Nat} {st : List Value} {σ : am_I} {ρ : am_R} {g : am_J} {τ : am_T} {Q : am_Q} {x0 x1 x2 x4 x5 : Value} {v : Int32} : AW d 25 11 [x0, x1, x2, .int v, x4, x5] (st) σ ρ g τ Q = AW d 25 12 [x0, x1, x2, .int v, x4, x5] (.int v :: st) σ ρ g τ Q := aw_lc m25 d25_11 rfl rfl rfl
theorem d25_12 : decode cX3_addDebt 12 = .ok (.iload 4, 2) := by decide +kernel
theorem s25_12 {d : Nat} {st : List Value} {σ : am_I} {ρ : am_R} {g : am_J} {τ : am_T} {Q : am_Q} {x0 x1 x2 x3 x5 : Value} {v : Int32} : AW d 25 12 [x0, x1, x2, x3, .int v, x5] (st) σ ρ g τ Q = AW d 25 14 [x0, x1, x2, x3, .int v, x5] (.int v :: st) σ ρ g τ Q := aw_lc m25 d25_12 rfl rfl rfl
theorem d25_14 : decode cX3_addDebt 14 = .ok (.iload 5, 2) := by decide +kernel
theorem s25_14 {d : Nat} {st : List Value} {σ : am_I} {ρ : am_R} {g : am_J} {τ : am_T} {Q : am_Q} {x0 x1 x2 x3 x4 : Value} {v : Int32} : AW d 25 14 [x0, x1, x2, x3, x4, .int v] (st) σ ρ g τ Q = AW d 25 16 [x0, x1, x2, x3, x4, .int v] (.int v :: st) σ ρ g τ Q := aw_lc m25 d25_14 rfl rfl rfl
theorem d25_16 : decode cX3_addDebt 16 = .ok (.aload_n 0, 1) := by decide +kernel
theorem s25_16 {d : Nat} {st : List Value} {σ : am_I} {ρ : am_R} {g : am_J} {τ : am_T} {Q : am_Q} {x1 x2 x3 x4 x5 : Value} {v : Nat} : AW d 25 16 [.ref v, x1, x2, x3, x4, x5] (st) σ ρ g τ Q = AW d 25 17 [.ref v, x1, x2, x3, x4, x5] (.ref v :: st) σ ρ g τ Q := aw_lc m25 d25_16 rfl rfl rfl
theorem d25_17 : decode cX3_addDebt 17 = .ok (.getfield 9, 3) := by decide +kernel
theorem s25_17 {d : Nat} {st : List Value} {σ : am_I} {ρ : am_R} {g : am_J} {τ : am_T} {Q : am_Q} {x0 x1 x2 x3 x4 x5 : Value} {a : Nat} (ht : τ.1 a = 3) : AW d 25 17 [x0, x1, x2, x3, x4, x5] (.ref a :: st) σ ρ g τ Q = AW d 25 20 [x0, x1, x2, x3, x4, x5] (.int (σ a 0) :: st) σ ρ g τ Q := aw_gi m25 d25_17 rfl rfl rfl ht
theorem d25_20 : decode cX3_addDebt 20 = .ok (.invokevirtual 110, 3) := by decide +kernel
theorem s25_20 {d : Nat} {st : List Value} {σ : am_I} {ρ : am_R} {g : am_J} {τ : am_T} {Q : am_Q} {x0 x1 x2 x3 x4 x5 : Value} {p0 : Nat} {p1 : Int32} {p2 : Int32} {p3 : Int32} {p4 : Int32} {p5 : Int32} {p6 : Int32} (ht : τ.1 p0 = 1) (hs : st.length ≤ 4) : AW (d + 1) 25 20 [x0, x1, x2, x3, x4, x5] (.int p6 :: .int p5 :: .int p4 :: .int p3 :: .int p2 :: .int p1 :: .ref p0 :: st) σ ρ g τ Q = AW d 8 0 [.ref p0, .int p1, .int p2, .int p3, .int p4, .int p5, .int p6] [] σ ρ g τ (fun r9 σ ρ g τ => AW (d + 1) 25 23 [x0, x1, x2, x3, x4, x5] (r9.toList ++ st) σ ρ g τ Q) := aw_cv m25 d25_20 rfl m8 rfl rfl (by decide) en8 ok8 rfl ht hs
theorem d25_23 : decode cX3_addDebt 23 = .ok (.aload_n 0, 1) := by decide +kernel
theorem s25_23 {d : Nat} {st : List Value} {σ : am_I} {ρ : am_R} {g : am_J} {τ : am_T} {Q : am_Q} {x1 x2 x3 x4 x5 : Value} {v : Nat} : AW d 25 23 [.ref v, x1, x2, x3, x4, x5] (st) σ ρ g τ Q = AW d 25 24 [.ref v, x1, x2, x3, x4, x5] (.ref v :: st) σ ρ g τ Q := aw_lc m25 d25_23 rfl rfl rfl
theorem d25_24 : decode cX3_addDebt 24 = .ok (.dup, 1) := by decide +kernel
theorem s25_24 {d : Nat} {st : List Value} {σ : am_I} {ρ : am_R} {g : am_J} {τ : am_T} {Q : am_Q} {x0 x1 x2 x3 x4 x5 : Value} {v : Int32} : AW d 25 24 [x0, x1, x2, x3, x4, x5] (.int v :: st) σ ρ g τ Q = AW d 25 25 [x0, x1, x2, x3, x4, x5] (.int v :: .int v :: st) σ ρ g τ Q := aw_lc m25 d25_24 rfl rfl rfl
theorem s25_24r {d : Nat} {st : List Value} {σ : am_I} {ρ : am_R} {g : am_J} {τ : am_T} {Q : am_Q} {x0 x1 x2 x3 x4 x5 : Value} {v : Nat} : AW d 25 24 [x0, x1, x2, x3, x4, x5] (.ref v :: st) σ ρ g τ Q = AW d 25 25 [x0, x1, x2, x3, x4, x5] (.ref v :: .ref v :: st) σ ρ g τ Q := aw_lc m25 d25_24 rfl rfl rfl
theorem d25_25 : decode cX3_addDebt 25 = .ok (.getfield 43, 3) := by decide +kernel
theorem s25_25 {d : Nat} {st : List Value} {σ : am_I} {ρ : am_R} {g : am_J} {τ : am_T} {Q : am_Q} {x0 x1 x2 x3 x4 x5 : Value} {a : Nat} (ht : τ.1 a = 3) : AW d 25 25 [x0, x1, x2, x3, x4, x5] (.ref a :: st) σ ρ g τ Q = AW d 25 28 [x0, x1, x2, x3, x4, x5] (.int (σ a 8) :: st) σ ρ g τ Q := aw_gi m25 d25_25 rfl rfl rfl ht
theorem d25_28 : decode cX3_addDebt 28 = .ok (.iconst 1, 1) := by decide +kernel
theorem s25_28 {d : Nat} {st : List Value} {σ : am_I} {ρ : am_R} {g : am_J} {τ : am_T} {Q : am_Q} {x0 x1 x2 x3 x4 x5 : Value} : AW d 25 28 [x0, x1, x2, x3, x4, x5] (st) σ ρ g τ Q = AW d 25 29 [x0, x1, x2, x3, x4, x5] (.int 1 :: st) σ ρ g τ Q := aw_lc m25 d25_28 rfl rfl rfl
theorem d25_29 : decode cX3_addDebt 29 = .ok (.iadd, 1) := by decide +kernel
theorem s25_29 {d : Nat} {st : List Value} {σ : am_I} {ρ : am_R} {g : am_J} {τ : am_T} {Q : am_Q} {x0 x1 x2 x3 x4 x5 : Value} {v w : Int32} : AW d 25 29 [x0, x1, x2, x3, x4, x5] (.int w :: .int v :: st) σ ρ g τ Q = AW d 25 30 [x0, x1, x2, x3, x4, x5] (.int (v + w) :: st) σ ρ g τ Q := aw_lc m25 d25_29 rfl rfl rfl
theorem d25_30 : decode cX3_addDebt 30 = .ok (.putfield 43, 3) := by decide +kernel
theorem s25_30 {d : Nat} {st : List Value} {σ : am_I} {ρ : am_R} {g : am_J} {τ : am_T} {Q : am_Q} {x0 x1 x2 x3 x4 x5 : Value} {a : Nat} {v : Int32} (ht : τ.1 a = 3) : AW d 25 30 [x0, x1, x2, x3, x4, x5] (.int v :: .ref a :: st) σ ρ g τ Q = AW d 25 33 [x0, x1, x2, x3, x4, x5] (st) (am_u σ a 8 v) ρ g τ Q := aw_pi m25 d25_30 rfl rfl (Or.inl rfl) rfl ht
theorem d25_33 : decode cX3_addDebt 33 = .ok (.aload_n 0, 1) := by decide +kernel
theorem s25_33 {d : Nat} {st : List Value} {σ : am_I} {ρ : am_R} {g : am_J} {τ : am_T} {Q : am_Q} {x1 x2 x3 x4 x5 : Value} {v : Nat} : AW d 25 33 [.ref v, x1, x2, x3, x4, x5] (st) σ ρ g τ Q = AW d 25 34 [.ref v, x1, x2, x3, x4, x5] (.ref v :: st) σ ρ g τ Q := aw_lc m25 d25_33 rfl rfl rfl
theorem d25_34 : decode cX3_addDebt 34 = .ok (.getfield 43, 3) := by decide +kernel
theorem s25_34 {d : Nat} {st : List Value} {σ : am_I} {ρ : am_R} {g : am_J} {τ : am_T} {Q : am_Q} {x0 x1 x2 x3 x4 x5 : Value} {a : Nat} (ht : τ.1 a = 3) : AW d 25 34 [x0, x1, x2, x3, x4, x5] (.ref a :: st) σ ρ g τ Q = AW d 25 37 [x0, x1, x2, x3, x4, x5] (.int (σ a 8) :: st) σ ρ g τ Q := aw_gi m25 d25_34 rfl rfl rfl ht
theorem d25_37 : decode cX3_addDebt 37 = .ok (.iconst 1, 1) := by decide +kernel
theorem s25_37 {d : Nat} {st : List Value} {σ : am_I} {ρ : am_R} {g : am_J} {τ : am_T} {Q : am_Q} {x0 x1 x2 x3 x4 x5 : Value} : AW d 25 37 [x0, x1, x2, x3, x4, x5] (st) σ ρ g τ Q = AW d 25 38 [x0, x1, x2, x3, x4, x5] (.int 1 :: st) σ ρ g τ Q := aw_lc m25 d25_37 rfl rfl rfl
theorem d25_38 : decode cX3_addDebt 38 = .ok (.isub, 1) := by decide +kernel
theorem s25_38 {d : Nat} {st : List Value} {σ : am_I} {ρ : am_R} {g : am_J} {τ : am_T} {Q : am_Q} {x0 x1 x2 x3 x4 x5 : Value} {v w : Int32} : AW d 25 38 [x0, x1, x2, x3, x4, x5] (.int w :: .int v :: st) σ ρ g τ Q = AW d 25 39 [x0, x1, x2, x3, x4, x5] (.int (v - w) :: st) σ ρ g τ Q := aw_lc m25 d25_38 rfl rfl rfl
theorem d25_39 : decode cX3_addDebt 39 = .ok (.ireturn, 1) := by decide +kernel
theorem s25_39 {d : Nat} {σ : am_I} {ρ : am_R} {g : am_J} {τ : am_T} {Q : am_Q} {x0 x1 x2 x3 x4 x5 : Value} {v : Int32} : AW d 25 39 [x0, x1, x2, x3, x4, x5] ([.int v]) σ ρ g τ Q = Q (some (.int v)) σ ρ g τ := aw_ri m25 d25_39 rfl
theorem d26_0 : decode cX3_statuteIn 0 = .ok (.aload_n 0, 1) := by decide +kernel
theorem s26_0 {d : Nat} {st : List Value} {σ : am_I} {ρ : am_R} {g : am_J} {τ : am_T} {Q : am_Q} {x1 x2 : Value} {v : Nat} : AW d 26 0 [.ref v, x1, x2] (st) σ ρ g τ Q = AW d 26 1 [.ref v, x1, x2] (.ref v :: st) σ ρ g τ Q := aw_lc m26 d26_0 rfl rfl rfl
theorem d26_1 : decode cX3_statuteIn 1 = .ok (.getfield 61, 3) := by decide +kernel
theorem s26_1 {d : Nat} {st : List Value} {σ : am_I} {ρ : am_R} {g : am_J} {τ : am_T} {Q : am_Q} {x0 x1 x2 : Value} {a : Nat} (ht : τ.1 a = 3) : AW d 26 1 [x0, x1, x2] (.ref a :: st) σ ρ g τ Q = AW d 26 4 [x0, x1, x2] (.int (σ a 11) :: st) σ ρ g τ Q := aw_gi m26 d26_1 rfl rfl rfl ht
theorem d26_4 : decode cX3_statuteIn 4 = .ok (.iconst 1, 1) := by decide +kernel
theorem s26_4 {d : Nat} {st : List Value} {σ : am_I} {ρ : am_R} {g : am_J} {τ : am_T} {Q : am_Q} {x0 x1 x2 : Value} : AW d 26 4 [x0, x1, x2] (st) σ ρ g τ Q = AW d 26 5 [x0, x1, x2] (.int 1 :: st) σ ρ g τ Q := aw_lc m26 d26_4 rfl rfl rfl
theorem d26_5 : decode cX3_statuteIn 5 = .ok (.isub, 1) := by decide +kernel
theorem s26_5 {d : Nat} {st : List Value} {σ : am_I} {ρ : am_R} {g : am_J} {τ : am_T} {Q : am_Q} {x0 x1 x2 : Value} {v w : Int32} : AW d 26 5 [x0, x1, x2] (.int w :: .int v :: st) σ ρ g τ Q = AW d 26 6 [x0, x1, x2] (.int (v - w) :: st) σ ρ g τ Q := aw_lc m26 d26_5 rfl rfl rfl
theorem d26_6 : decode cX3_statuteIn 6 = .ok (.istore_n 2, 1) := by decide +kernel
theorem s26_6 {d : Nat} {st : List Value} {σ : am_I} {ρ : am_R} {g : am_J} {τ : am_T} {Q : am_Q} {x0 x2 : Value} {v : Int32} {u : Int32} : AW d 26 6 [x0, .int u, x2] (.int v :: st) σ ρ g τ Q = AW d 26 7 [x0, .int u, .int v] (st) σ ρ g τ Q := aw_lc m26 d26_6 rfl rfl rfl
theorem d26_7 : decode cX3_statuteIn 7 = .ok (.iload_n 2, 1) := by decide +kernel
theorem s26_7 {d : Nat} {st : List Value} {σ : am_I} {ρ : am_R} {g : am_J} {τ : am_T} {Q : am_Q} {x0 x1 : Value} {v : Int32} : AW d 26 7 [x0, x1, .int v] (st) σ ρ g τ Q = AW d 26 8 [x0, x1, .int v] (.int v :: st) σ ρ g τ Q := aw_lc m26 d26_7 rfl rfl rfl
theorem d26_8 : decode cX3_statuteIn 8 = .ok (.ifCond .lt 29, 3) := by decide +kernel
theorem s26_8 {d : Nat} {st : List Value} {σ : am_I} {ρ : am_R} {g : am_J} {τ : am_T} {Q : am_Q} {x0 x1 x2 : Value} {v : Int32} : AW d 26 8 [x0, x1, x2] (.int v :: st) σ ρ g τ Q = if v < 0 then AW d 26 37 [x0, x1, x2] (st) σ ρ g τ Q else AW d 26 11 [x0, x1, x2] (st) σ ρ g τ Q := aw_br m26 d26_8 rfl rfl rfl
theorem d26_11 : decode cX3_statuteIn 11 = .ok (.aload_n 0, 1) := by decide +kernel
theorem s26_11 {d : Nat} {st : List Value} {σ : am_I} {ρ : am_R} {g : am_J} {τ : am_T} {Q : am_Q} {x1 x2 : Value} {v : Nat} : AW d 26 11 [.ref v, x1, x2] (st) σ ρ g τ Q = AW d 26 12 [.ref v, x1, x2] (.ref v :: st) σ ρ g τ Q := aw_lc m26 d26_11 rfl rfl rfl
theorem d26_12 : decode cX3_statuteIn 12 = .ok (.getfield 57, 3) := by decide +kernel
theorem s26_12 {d : Nat} {st : List Value} {σ : am_I} {ρ : am_R} {g : am_J} {τ : am_T} {Q : am_Q} {x0 x1 x2 : Value} {a : Nat} (ht : τ.1 a = 3) : AW d 26 12 [x0, x1, x2] (.ref a :: st) σ ρ g τ Q = AW d 26 15 [x0, x1, x2] (va_rf (ρ a 10) :: st) σ ρ g τ Q := aw_gr m26 d26_12 rfl rfl rfl ht
theorem d26_15 : decode cX3_statuteIn 15 = .ok (.iload_n 2, 1) := by decide +kernel
theorem s26_15 {d : Nat} {st : List Value} {σ : am_I} {ρ : am_R} {g : am_J} {τ : am_T} {Q : am_Q} {x0 x1 : Value} {v : Int32} : AW d 26 15 [x0, x1, .int v] (st) σ ρ g τ Q = AW d 26 16 [x0, x1, .int v] (.int v :: st) σ ρ g τ Q := aw_lc m26 d26_15 rfl rfl rfl
theorem d26_16 : decode cX3_statuteIn 16 = .ok (.aaload, 1) := by decide +kernel
theorem s26_16 {d : Nat} {st : List Value} {σ : am_I} {ρ : am_R} {g : am_J} {τ : am_T} {Q : am_Q} {x0 x1 x2 : Value} {a : Nat} {j : Int32} (ht : 18 ≤ τ.1 a ∧ τ.1 a ≤ 22) (hj : am_inb j (τ.2.1 a) = true) : AW d 26 16 [x0, x1, x2] (.int j :: .ref a :: st) σ ρ g τ Q = AW d 26 17 [x0, x1, x2] (va_rf (ρ a j.toNatClampNeg) :: st) σ ρ g τ Q := aw_aal m26 d26_16 rfl ht hj
theorem d26_17 : decode cX3_statuteIn 17 = .ok (.getfield 114, 3) := by decide +kernel
theorem s26_17 {d : Nat} {st : List Value} {σ : am_I} {ρ : am_R} {g : am_J} {τ : am_T} {Q : am_Q} {x0 x1 x2 : Value} {a : Nat} (ht : τ.1 a = 9) : AW d 26 17 [x0, x1, x2] (.ref a :: st) σ ρ g τ Q = AW d 26 20 [x0, x1, x2] (.int (σ a 0) :: st) σ ρ g τ Q := aw_gi m26 d26_17 rfl rfl rfl ht
theorem d26_20 : decode cX3_statuteIn 20 = .ok (.iload_n 1, 1) := by decide +kernel
theorem s26_20 {d : Nat} {st : List Value} {σ : am_I} {ρ : am_R} {g : am_J} {τ : am_T} {Q : am_Q} {x0 x2 : Value} {v : Int32} : AW d 26 20 [x0, .int v, x2] (st) σ ρ g τ Q = AW d 26 21 [x0, .int v, x2] (.int v :: st) σ ρ g τ Q := aw_lc m26 d26_20 rfl rfl rfl
theorem d26_21 : decode cX3_statuteIn 21 = .ok (.if_icmp .gt 10, 3) := by decide +kernel
theorem s26_21 {d : Nat} {st : List Value} {σ : am_I} {ρ : am_R} {g : am_J} {τ : am_T} {Q : am_Q} {x0 x1 x2 : Value} {v w : Int32} : AW d 26 21 [x0, x1, x2] (.int w :: .int v :: st) σ ρ g τ Q = if w < v then AW d 26 31 [x0, x1, x2] (st) σ ρ g τ Q else AW d 26 24 [x0, x1, x2] (st) σ ρ g τ Q := aw_br m26 d26_21 rfl rfl rfl
theorem d26_24 : decode cX3_statuteIn 24 = .ok (.aload_n 0, 1) := by decide +kernel
theorem s26_24 {d : Nat} {st : List Value} {σ : am_I} {ρ : am_R} {g : am_J} {τ : am_T} {Q : am_Q} {x1 x2 : Value} {v : Nat} : AW d 26 24 [.ref v, x1, x2] (st) σ ρ g τ Q = AW d 26 25 [.ref v, x1, x2] (.ref v :: st) σ ρ g τ Q := aw_lc m26 d26_24 rfl rfl rfl
theorem d26_25 : decode cX3_statuteIn 25 = .ok (.getfield 57, 3) := by decide +kernel
theorem s26_25 {d : Nat} {st : List Value} {σ : am_I} {ρ : am_R} {g : am_J} {τ : am_T} {Q : am_Q} {x0 x1 x2 : Value} {a : Nat} (ht : τ.1 a = 3) : AW d 26 25 [x0, x1, x2] (.ref a :: st) σ ρ g τ Q = AW d 26 28 [x0, x1, x2] (va_rf (ρ a 10) :: st) σ ρ g τ Q := aw_gr m26 d26_25 rfl rfl rfl ht
theorem d26_28 : decode cX3_statuteIn 28 = .ok (.iload_n 2, 1) := by decide +kernel
theorem s26_28 {d : Nat} {st : List Value} {σ : am_I} {ρ : am_R} {g : am_J} {τ : am_T} {Q : am_Q} {x0 x1 : Value} {v : Int32} : AW d 26 28 [x0, x1, .int v] (st) σ ρ g τ Q = AW d 26 29 [x0, x1, .int v] (.int v :: st) σ ρ g τ Q := aw_lc m26 d26_28 rfl rfl rfl
theorem d26_29 : decode cX3_statuteIn 29 = .ok (.aaload, 1) := by decide +kernel
theorem s26_29 {d : Nat} {st : List Value} {σ : am_I} {ρ : am_R} {g : am_J} {τ : am_T} {Q : am_Q} {x0 x1 x2 : Value} {a : Nat} {j : Int32} (ht : 18 ≤ τ.1 a ∧ τ.1 a ≤ 22) (hj : am_inb j (τ.2.1 a) = true) : AW d 26 29 [x0, x1, x2] (.int j :: .ref a :: st) σ ρ g τ Q = AW d 26 30 [x0, x1, x2] (va_rf (ρ a j.toNatClampNeg) :: st) σ ρ g τ Q := aw_aal m26 d26_29 rfl ht hj
theorem d26_30 : decode cX3_statuteIn 30 = .ok (.areturn, 1) := by decide +kernel
theorem s26_30 {d : Nat} {σ : am_I} {ρ : am_R} {g : am_J} {τ : am_T} {Q : am_Q} {x0 x1 x2 : Value} {b : Nat} : AW d 26 30 [x0, x1, x2] ([.ref b]) σ ρ g τ Q = Q (some (.ref b)) σ ρ g τ := aw_ra m26 d26_30 rfl
theorem d26_31 : decode cX3_statuteIn 31 = .ok (.iinc 2 (-1), 3) := by decide +kernel
theorem s26_31 {d : Nat} {st : List Value} {σ : am_I} {ρ : am_R} {g : am_J} {τ : am_T} {Q : am_Q} {x0 : Value} {v : Int32} {u : Int32} : AW d 26 31 [x0, .int u, .int v] (st) σ ρ g τ Q = AW d 26 34 [x0, .int u, .int (v + (-1))] (st) σ ρ g τ Q := aw_lc m26 d26_31 rfl rfl rfl
theorem d26_34 : decode cX3_statuteIn 34 = .ok (.goto (-27), 3) := by decide +kernel
theorem s26_34 {d : Nat} {st : List Value} {σ : am_I} {ρ : am_R} {g : am_J} {τ : am_T} {Q : am_Q} {x0 x1 x2 : Value} : AW d 26 34 [x0, x1, x2] (st) σ ρ g τ Q = AW d 26 7 [x0, x1, x2] (st) σ ρ g τ Q := aw_lc m26 d26_34 rfl rfl rfl
theorem d26_37 : decode cX3_statuteIn 37 = .ok (.aload_n 0, 1) := by decide +kernel
theorem s26_37 {d : Nat} {st : List Value} {σ : am_I} {ρ : am_R} {g : am_J} {τ : am_T} {Q : am_Q} {x1 x2 : Value} {v : Nat} : AW d 26 37 [.ref v, x1, x2] (st) σ ρ g τ Q = AW d 26 38 [.ref v, x1, x2] (.ref v :: st) σ ρ g τ Q := aw_lc m26 d26_37 rfl rfl rfl
theorem d26_38 : decode cX3_statuteIn 38 = .ok (.getfield 53, 3) := by decide +kernel
theorem s26_38 {d : Nat} {st : List Value} {σ : am_I} {ρ : am_R} {g : am_J} {τ : am_T} {Q : am_Q} {x0 x1 x2 : Value} {a : Nat} (ht : τ.1 a = 3) : AW d 26 38 [x0, x1, x2] (.ref a :: st) σ ρ g τ Q = AW d 26 41 [x0, x1, x2] (va_rf (ρ a 9) :: st) σ ρ g τ Q := aw_gr m26 d26_38 rfl rfl rfl ht
theorem d26_41 : decode cX3_statuteIn 41 = .ok (.areturn, 1) := by decide +kernel
theorem s26_41 {d : Nat} {σ : am_I} {ρ : am_R} {g : am_J} {τ : am_T} {Q : am_Q} {x0 x1 x2 : Value} {b : Nat} : AW d 26 41 [x0, x1, x2] ([.ref b]) σ ρ g τ Q = Q (some (.ref b)) σ ρ g τ := aw_ra m26 d26_41 rfl
theorem d27_0 : decode cX3_dueOf 0 = .ok (.aload_n 1, 1) := by decide +kernel
theorem s27_0 {d : Nat} {st : List Value} {σ : am_I} {ρ : am_R} {g : am_J} {τ : am_T} {Q : am_Q} {x0 x2 x3 x4 : Value} {v : Nat} : AW d 27 0 [x0, .ref v, x2, x3, x4] (st) σ ρ g τ Q = AW d 27 1 [x0, .ref v, x2, x3, x4] (.ref v :: st) σ ρ g τ Q := aw_lc m27 d27_0 rfl rfl rfl
theorem d27_1 : decode cX3_dueOf 1 = .ok (.getfield 117, 3) := by decide +kernel
theorem s27_1 {d : Nat} {st : List Value} {σ : am_I} {ρ : am_R} {g : am_J} {τ : am_T} {Q : am_Q} {x0 x1 x2 x3 x4 : Value} {a : Nat} (ht : τ.1 a = 7) : AW d 27 1 [x0, x1, x2, x3, x4] (.ref a :: st) σ ρ g τ Q = AW d 27 4 [x0, x1, x2, x3, x4] (va_rf (ρ a 4) :: st) σ ρ g τ Q := aw_gr m27 d27_1 rfl rfl rfl ht
theorem d27_4 : decode cX3_dueOf 4 = .ok (.iload_n 2, 1) := by decide +kernel
theorem s27_4 {d : Nat} {st : List Value} {σ : am_I} {ρ : am_R} {g : am_J} {τ : am_T} {Q : am_Q} {x0 x1 x3 x4 : Value} {v : Int32} : AW d 27 4 [x0, x1, .int v, x3, x4] (st) σ ρ g τ Q = AW d 27 5 [x0, x1, .int v, x3, x4] (.int v :: st) σ ρ g τ Q := aw_lc m27 d27_4 rfl rfl rfl
theorem d27_5 : decode cX3_dueOf 5 = .ok (.iaload, 1) := by decide +kernel
theorem s27_5 {d : Nat} {st : List Value} {σ : am_I} {ρ : am_R} {g : am_J} {τ : am_T} {Q : am_Q} {x0 x1 x2 x3 x4 : Value} {a : Nat} {j : Int32} (ht : τ.1 a = 15) (hj : am_inb j (τ.2.1 a) = true) : AW d 27 5 [x0, x1, x2, x3, x4] (.int j :: .ref a :: st) σ ρ g τ Q = AW d 27 6 [x0, x1, x2, x3, x4] (.int (σ a j.toNatClampNeg) :: st) σ ρ g τ Q := aw_ial m27 d27_5 rfl ht hj
theorem d27_6 : decode cX3_dueOf 6 = .ok (.aload_n 0, 1) := by decide +kernel
theorem s27_6 {d : Nat} {st : List Value} {σ : am_I} {ρ : am_R} {g : am_J} {τ : am_T} {Q : am_Q} {x1 x2 x3 x4 : Value} {v : Nat} : AW d 27 6 [.ref v, x1, x2, x3, x4] (st) σ ρ g τ Q = AW d 27 7 [.ref v, x1, x2, x3, x4] (.ref v :: st) σ ρ g τ Q := aw_lc m27 d27_6 rfl rfl rfl
theorem d27_7 : decode cX3_dueOf 7 = .ok (.getfield 22, 3) := by decide +kernel
theorem s27_7 {d : Nat} {st : List Value} {σ : am_I} {ρ : am_R} {g : am_J} {τ : am_T} {Q : am_Q} {x0 x1 x2 x3 x4 : Value} {a : Nat} (ht : τ.1 a = 3) : AW d 27 7 [x0, x1, x2, x3, x4] (.ref a :: st) σ ρ g τ Q = AW d 27 10 [x0, x1, x2, x3, x4] (va_rf (ρ a 3) :: st) σ ρ g τ Q := aw_gr m27 d27_7 rfl rfl rfl ht
theorem d27_10 : decode cX3_dueOf 10 = .ok (.iload_n 3, 1) := by decide +kernel
theorem s27_10 {d : Nat} {st : List Value} {σ : am_I} {ρ : am_R} {g : am_J} {τ : am_T} {Q : am_Q} {x0 x1 x2 x4 : Value} {v : Int32} : AW d 27 10 [x0, x1, x2, .int v, x4] (st) σ ρ g τ Q = AW d 27 11 [x0, x1, x2, .int v, x4] (.int v :: st) σ ρ g τ Q := aw_lc m27 d27_10 rfl rfl rfl
theorem d27_11 : decode cX3_dueOf 11 = .ok (.bipush 12, 2) := by decide +kernel
theorem s27_11 {d : Nat} {st : List Value} {σ : am_I} {ρ : am_R} {g : am_J} {τ : am_T} {Q : am_Q} {x0 x1 x2 x3 x4 : Value} : AW d 27 11 [x0, x1, x2, x3, x4] (st) σ ρ g τ Q = AW d 27 13 [x0, x1, x2, x3, x4] (.int 12 :: st) σ ρ g τ Q := aw_lc m27 d27_11 rfl rfl rfl
theorem d27_13 : decode cX3_dueOf 13 = .ok (.irem, 1) := by decide +kernel
theorem s27_13 {d : Nat} {st : List Value} {σ : am_I} {ρ : am_R} {g : am_J} {τ : am_T} {Q : am_Q} {x0 x1 x2 x3 x4 : Value} {v w : Int32} (h0 : ¬ w = 0) : AW d 27 13 [x0, x1, x2, x3, x4] (.int w :: .int v :: st) σ ρ g τ Q = AW d 27 14 [x0, x1, x2, x3, x4] (.int (v - v / w * w) :: st) σ ρ g τ Q := aw_rem m27 d27_13 h0 rfl
theorem d27_14 : decode cX3_dueOf 14 = .ok (.iaload, 1) := by decide +kernel
theorem s27_14 {d : Nat} {st : List Value} {σ : am_I} {ρ : am_R} {g : am_J} {τ : am_T} {Q : am_Q} {x0 x1 x2 x3 x4 : Value} {a : Nat} {j : Int32} (ht : τ.1 a = 15) (hj : am_inb j (τ.2.1 a) = true) : AW d 27 14 [x0, x1, x2, x3, x4] (.int j :: .ref a :: st) σ ρ g τ Q = AW d 27 15 [x0, x1, x2, x3, x4] (.int (σ a j.toNatClampNeg) :: st) σ ρ g τ Q := aw_ial m27 d27_14 rfl ht hj
theorem d27_15 : decode cX3_dueOf 15 = .ok (.imul, 1) := by decide +kernel
theorem s27_15 {d : Nat} {st : List Value} {σ : am_I} {ρ : am_R} {g : am_J} {τ : am_T} {Q : am_Q} {x0 x1 x2 x3 x4 : Value} {v w : Int32} : AW d 27 15 [x0, x1, x2, x3, x4] (.int w :: .int v :: st) σ ρ g τ Q = AW d 27 16 [x0, x1, x2, x3, x4] (.int (v * w) :: st) σ ρ g τ Q := aw_lc m27 d27_15 rfl rfl rfl
theorem d27_16 : decode cX3_dueOf 16 = .ok (.bipush 100, 2) := by decide +kernel
theorem s27_16 {d : Nat} {st : List Value} {σ : am_I} {ρ : am_R} {g : am_J} {τ : am_T} {Q : am_Q} {x0 x1 x2 x3 x4 : Value} : AW d 27 16 [x0, x1, x2, x3, x4] (st) σ ρ g τ Q = AW d 27 18 [x0, x1, x2, x3, x4] (.int 100 :: st) σ ρ g τ Q := aw_lc m27 d27_16 rfl rfl rfl
theorem d27_18 : decode cX3_dueOf 18 = .ok (.idiv, 1) := by decide +kernel
theorem s27_18 {d : Nat} {st : List Value} {σ : am_I} {ρ : am_R} {g : am_J} {τ : am_T} {Q : am_Q} {x0 x1 x2 x3 x4 : Value} {v w : Int32} (h0 : ¬ w = 0) : AW d 27 18 [x0, x1, x2, x3, x4] (.int w :: .int v :: st) σ ρ g τ Q = AW d 27 19 [x0, x1, x2, x3, x4] (.int (v / w) :: st) σ ρ g τ Q := aw_div m27 d27_18 h0 rfl
theorem d27_19 : decode cX3_dueOf 19 = .ok (.iload 4, 2) := by decide +kernel
theorem s27_19 {d : Nat} {st : List Value} {σ : am_I} {ρ : am_R} {g : am_J} {τ : am_T} {Q : am_Q} {x0 x1 x2 x3 : Value} {v : Int32} : AW d 27 19 [x0, x1, x2, x3, .int v] (st) σ ρ g τ Q = AW d 27 21 [x0, x1, x2, x3, .int v] (.int v :: st) σ ρ g τ Q := aw_lc m27 d27_19 rfl rfl rfl
theorem d27_21 : decode cX3_dueOf 21 = .ok (.imul, 1) := by decide +kernel
theorem s27_21 {d : Nat} {st : List Value} {σ : am_I} {ρ : am_R} {g : am_J} {τ : am_T} {Q : am_Q} {x0 x1 x2 x3 x4 : Value} {v w : Int32} : AW d 27 21 [x0, x1, x2, x3, x4] (.int w :: .int v :: st) σ ρ g τ Q = AW d 27 22 [x0, x1, x2, x3, x4] (.int (v * w) :: st) σ ρ g τ Q := aw_lc m27 d27_21 rfl rfl rfl
theorem d27_22 : decode cX3_dueOf 22 = .ok (.bipush 100, 2) := by decide +kernel
theorem s27_22 {d : Nat} {st : List Value} {σ : am_I} {ρ : am_R} {g : am_J} {τ : am_T} {Q : am_Q} {x0 x1 x2 x3 x4 : Value} : AW d 27 22 [x0, x1, x2, x3, x4] (st) σ ρ g τ Q = AW d 27 24 [x0, x1, x2, x3, x4] (.int 100 :: st) σ ρ g τ Q := aw_lc m27 d27_22 rfl rfl rfl
theorem d27_24 : decode cX3_dueOf 24 = .ok (.idiv, 1) := by decide +kernel
theorem s27_24 {d : Nat} {st : List Value} {σ : am_I} {ρ : am_R} {g : am_J} {τ : am_T} {Q : am_Q} {x0 x1 x2 x3 x4 : Value} {v w : Int32} (h0 : ¬ w = 0) : AW d 27 24 [x0, x1, x2, x3, x4] (.int w :: .int v :: st) σ ρ g τ Q = AW d 27 25 [x0, x1, x2, x3, x4] (.int (v / w) :: st) σ ρ g τ Q := aw_div m27 d27_24 h0 rfl
theorem d27_25 : decode cX3_dueOf 25 = .ok (.ireturn, 1) := by decide +kernel
theorem s27_25 {d : Nat} {σ : am_I} {ρ : am_R} {g : am_J} {τ : am_T} {Q : am_Q} {x0 x1 x2 x3 x4 : Value} {v : Int32} : AW d 27 25 [x0, x1, x2, x3, x4] ([.int v]) σ ρ g τ Q = Q (some (.int v)) σ ρ g τ := aw_ri m27 d27_25 rfl
theorem d28_0 : decode cX3_roundOf 0 = .ok (.iload_n 0, 1) := by decide +kernel
theorem s28_0 {d : Nat} {st : List Value} {σ : am_I} {ρ : am_R} {g : am_J} {τ : am_T} {Q : am_Q} {x1 x2 : Value} {v : Int32} : AW d 28 0 [.int v, x1, x2] (st) σ ρ g τ Q = AW d 28 1 [.int v, x1, x2] (.int v :: st) σ ρ g τ Q := aw_lc m28 d28_0 rfl rfl rfl
theorem d28_1 : decode cX3_roundOf 1 = .ok (.iload_n 1, 1) := by decide +kernel
theorem s28_1 {d : Nat} {st : List Value} {σ : am_I} {ρ : am_R} {g : am_J} {τ : am_T} {Q : am_Q} {x0 x2 : Value} {v : Int32} : AW d 28 1 [x0, .int v, x2] (st) σ ρ g τ Q = AW d 28 2 [x0, .int v, x2] (.int v :: st) σ ρ g τ Q := aw_lc m28 d28_1 rfl rfl rfl
theorem d28_2 : decode cX3_roundOf 2 = .ok (.imul, 1) := by decide +kernel
theorem s28_2 {d : Nat} {st : List Value} {σ : am_I} {ρ : am_R} {g : am_J} {τ : am_T} {Q : am_Q} {x0 x1 x2 : Value} {v w : Int32} : AW d 28 2 [x0, x1, x2] (.int w :: .int v :: st) σ ρ g τ Q = AW d 28 3 [x0, x1, x2] (.int (v * w) :: st) σ ρ g τ Q := aw_lc m28 d28_2 rfl rfl rfl
theorem d28_3 : decode cX3_roundOf 3 = .ok (.bipush 100, 2) := by decide +kernel
theorem s28_3 {d : Nat} {st : List Value} {σ : am_I} {ρ : am_R} {g : am_J} {τ : am_T} {Q : am_Q} {x0 x1 x2 : Value} : AW d 28 3 [x0, x1, x2] (st) σ ρ g τ Q = AW d 28 5 [x0, x1, x2] (.int 100 :: st) σ ρ g τ Q := aw_lc m28 d28_3 rfl rfl rfl
theorem d28_5 : decode cX3_roundOf 5 = .ok (.idiv, 1) := by decide +kernel
theorem s28_5 {d : Nat} {st : List Value} {σ : am_I} {ρ : am_R} {g : am_J} {τ : am_T} {Q : am_Q} {x0 x1 x2 : Value} {v w : Int32} (h0 : ¬ w = 0) : AW d 28 5 [x0, x1, x2] (.int w :: .int v :: st) σ ρ g τ Q = AW d 28 6 [x0, x1, x2] (.int (v / w) :: st) σ ρ g τ Q := aw_div m28 d28_5 h0 rfl
theorem d28_6 : decode cX3_roundOf 6 = .ok (.bipush 10, 2) := by decide +kernel
theorem s28_6 {d : Nat} {st : List Value} {σ : am_I} {ρ : am_R} {g : am_J} {τ : am_T} {Q : am_Q} {x0 x1 x2 : Value} : AW d 28 6 [x0, x1, x2] (st) σ ρ g τ Q = AW d 28 8 [x0, x1, x2] (.int 10 :: st) σ ρ g τ Q := aw_lc m28 d28_6 rfl rfl rfl
theorem d28_8 : decode cX3_roundOf 8 = .ok (.iload_n 2, 1) := by decide +kernel
theorem s28_8 {d : Nat} {st : List Value} {σ : am_I} {ρ : am_R} {g : am_J} {τ : am_T} {Q : am_Q} {x0 x1 : Value} {v : Int32} : AW d 28 8 [x0, x1, .int v] (st) σ ρ g τ Q = AW d 28 9 [x0, x1, .int v] (.int v :: st) σ ρ g τ Q := aw_lc m28 d28_8 rfl rfl rfl
theorem d28_9 : decode cX3_roundOf 9 = .ok (.isub, 1) := by decide +kernel
theorem s28_9 {d : Nat} {st : List Value} {σ : am_I} {ρ : am_R} {g : am_J} {τ : am_T} {Q : am_Q} {x0 x1 x2 : Value} {v w : Int32} : AW d 28 9 [x0, x1, x2] (.int w :: .int v :: st) σ ρ g τ Q = AW d 28 10 [x0, x1, x2] (.int (v - w) :: st) σ ρ g τ Q := aw_lc m28 d28_9 rfl rfl rfl
theorem d28_10 : decode cX3_roundOf 10 = .ok (.imul, 1) := by decide +kernel
theorem s28_10 {d : Nat} {st : List Value} {σ : am_I} {ρ : am_R} {g : am_J} {τ : am_T} {Q : am_Q} {x0 x1 x2 : Value} {v w : Int32} : AW d 28 10 [x0, x1, x2] (.int w :: .int v :: st) σ ρ g τ Q = AW d 28 11 [x0, x1, x2] (.int (v * w) :: st) σ ρ g τ Q := aw_lc m28 d28_10 rfl rfl rfl
theorem d28_11 : decode cX3_roundOf 11 = .ok (.bipush 10, 2) := by decide +kernel
theorem s28_11 {d : Nat} {st : List Value} {σ : am_I} {ρ : am_R} {g : am_J} {τ : am_T} {Q : am_Q} {x0 x1 x2 : Value} : AW d 28 11 [x0, x1, x2] (st) σ ρ g τ Q = AW d 28 13 [x0, x1, x2] (.int 10 :: st) σ ρ g τ Q := aw_lc m28 d28_11 rfl rfl rfl
theorem d28_13 : decode cX3_roundOf 13 = .ok (.idiv, 1) := by decide +kernel
theorem s28_13 {d : Nat} {st : List Value} {σ : am_I} {ρ : am_R} {g : am_J} {τ : am_T} {Q : am_Q} {x0 x1 x2 : Value} {v w : Int32} (h0 : ¬ w = 0) : AW d 28 13 [x0, x1, x2] (.int w :: .int v :: st) σ ρ g τ Q = AW d 28 14 [x0, x1, x2] (.int (v / w) :: st) σ ρ g τ Q := aw_div m28 d28_13 h0 rfl
theorem d28_14 : decode cX3_roundOf 14 = .ok (.ireturn, 1) := by decide +kernel
theorem s28_14 {d : Nat} {σ : am_I} {ρ : am_R} {g : am_J} {τ : am_T} {Q : am_Q} {x0 x1 x2 : Value} {v : Int32} : AW d 28 14 [x0, x1, x2] ([.int v]) σ ρ g τ Q = Q (some (.int v)) σ ρ g τ := aw_ri m28 d28_14 rfl
theorem d29_0 : decode cX3_gatheredOf 0 = .ok (.iconst 0, 1) := by decide +kernel
theorem s29_0 {d : Nat} {st : List Value} {σ : am_I} {ρ : am_R} {g : am_J} {τ : am_T} {Q : am_Q} {x0 x1 x2 x3 x4 x5 x6 : Value} : AW d 29 0 [x0, x1, x2, x3, x4, x5, x6] (st) σ ρ g τ Q = AW d 29 1 [x0, x1, x2, x3, x4, x5, x6] (.int 0 :: st) σ ρ g τ Q := aw_lc m29 d29_0 rfl rfl rfl
theorem d29_1 : decode cX3_gatheredOf 1 = .ok (.istore 4, 2) := by decide +kernel
theorem s29_1 {d : Nat} {st : List Value} {σ : am_I} {ρ : am_R} {g : am_J} {τ : am_T} {Q : am_Q} {x0 x1 x2 x4 x5 x6 : Value} {v : Int32} {u : Int32} : AW d 29 1 [x0, x1, x2, .int u, x4, x5, x6] (.int v :: st) σ ρ g τ Q = AW d 29 3 [x0, x1, x2, .int u, .int v, x5, x6] (st) σ ρ g τ Q := aw_lc m29 d29_1 rfl rfl rfl
theorem d29_3 : decode cX3_gatheredOf 3 = .ok (.iconst 0, 1) := by decide +kernel
theorem s29_3 {d : Nat} {st : List Value} {σ : am_I} {ρ : am_R} {g : am_J} {τ : am_T} {Q : am_Q} {x0 x1 x2 x3 x4 x5 x6 : Value} : AW d 29 3 [x0, x1, x2, x3, x4, x5, x6] (st) σ ρ g τ Q = AW d 29 4 [x0, x1, x2, x3, x4, x5, x6] (.int 0 :: st) σ ρ g τ Q := aw_lc m29 d29_3 rfl rfl rfl
theorem d29_4 : decode cX3_gatheredOf 4 = .ok (.istore 5, 2) := by decide +kernel
theorem s29_4 {d : Nat} {st : List Value} {σ : am_I} {ρ : am_R} {g : am_J} {τ : am_T} {Q : am_Q} {x0 x1 x2 x3 x5 x6 : Value} {v : Int32} {u : Int32} : AW d 29 4 [x0, x1, x2, x3, .int u, x5, x6] (.int v :: st) σ ρ g τ Q = AW d 29 6 [x0, x1, x2, x3, .int u, .int v, x6] (st) σ ρ g τ Q := aw_lc m29 d29_4 rfl rfl rfl
theorem d29_6 : decode cX3_gatheredOf 6 = .ok (.iload 5, 2) := by decide +kernel
theorem s29_6 {d : Nat} {st : List Value} {σ : am_I} {ρ : am_R} {g : am_J} {τ : am_T} {Q : am_Q} {x0 x1 x2 x3 x4 x6 : Value} {v : Int32} : AW d 29 6 [x0, x1, x2, x3, x4, .int v, x6] (st) σ ρ g τ Q = AW d 29 8 [x0, x1, x2, x3, x4, .int v, x6] (.int v :: st) σ ρ g τ Q := aw_lc m29 d29_6 rfl rfl rfl
theorem d29_8 : decode cX3_gatheredOf 8 = .ok (.aload_n 0, 1) := by decide +kernel
theorem s29_8 {d : Nat} {st : List Value} {σ : am_I} {ρ : am_R} {g : am_J} {τ : am_T} {Q : am_Q} {x1 x2 x3 x4 x5 x6 : Value} {v : Nat} : AW d 29 8 [.ref v, x1, x2, x3, x4, x5, x6] (st) σ ρ g τ Q = AW d 29 9 [.ref v, x1, x2, x3, x4, x5, x6] (.ref v :: st) σ ρ g τ Q := aw_lc m29 d29_8 rfl rfl rfl
theorem d29_9 : decode cX3_gatheredOf 9 = .ok (.getfield 34, 3) := by decide +kernel
theorem s29_9 {d : Nat} {st : List Value} {σ : am_I} {ρ : am_R} {g : am_J} {τ : am_T} {Q : am_Q} {x0 x1 x2 x3 x4 x5 x6 : Value} {a : Nat} (ht : τ.1 a = 3) : AW d 29 9 [x0, x1, x2, x3, x4, x5, x6] (.ref a :: st) σ ρ g τ Q = AW d 29 12 [x0, x1, x2, x3, x4, x5, x6] (.int (σ a 6) :: st) σ ρ g τ Q := aw_gi m29 d29_9 rfl rfl rfl ht
theorem d29_12 : decode cX3_gatheredOf 12 = .ok (.if_icmp .ge 62, 3) := by decide +kernel
theorem s29_12 {d : Nat} {st : List Value} {σ : am_I} {ρ : am_R} {g : am_J} {τ : am_T} {Q : am_Q} {x0 x1 x2 x3 x4 x5 x6 : Value} {v w : Int32} : AW d 29 12 [x0, x1, x2, x3, x4, x5, x6] (.int w :: .int v :: st) σ ρ g τ Q = if w ≤ v then AW d 29 74 [x0, x1, x2, x3, x4, x5, x6] (st) σ ρ g τ Q else AW d 29 15 [x0, x1, x2, x3, x4, x5, x6] (st) σ ρ g τ Q := aw_br m29 d29_12 rfl rfl rfl
theorem d29_15 : decode cX3_gatheredOf 15 = .ok (.aload_n 0, 1) := by decide +kernel
theorem s29_15 {d : Nat} {st : List Value} {σ : am_I} {ρ : am_R} {g : am_J} {τ : am_T} {Q : am_Q} {x1 x2 x3 x4 x5 x6 : Value} {v : Nat} : AW d 29 15 [.ref v, x1, x2, x3, x4, x5, x6] (st) σ ρ g τ Q = AW d 29 16 [.ref v, x1, x2, x3, x4, x5, x6] (.ref v :: st) σ ρ g τ Q := aw_lc m29 d29_15 rfl rfl rfl
theorem d29_16 : decode cX3_gatheredOf 16 = .ok (.getfield 30, 3) := by decide +kernel
theorem s29_16 {d : Nat} {st : List Value} {σ : am_I} {ρ : am_R} {g : am_J} {τ : am_T} {Q : am_Q} {x0 x1 x2 x3 x4 x5 x6 : Value} {a : Nat} (ht : τ.1 a = 3) : AW d 29 16 [x0, x1, x2, x3, x4, x5, x6] (.ref a :: st) σ ρ g τ Q = AW d 29 19 [x0, x1, x2, x3, x4, x5, x6] (va_rf (ρ a 5) :: st) σ ρ g τ Q := aw_gr m29 d29_16 rfl rfl rfl ht
theorem d29_19 : decode cX3_gatheredOf 19 = .ok (.iload 5, 2) := by decide +kernel
theorem s29_19 {d : Nat} {st : List Value} {σ : am_I} {ρ : am_R} {g : am_J} {τ : am_T} {Q : am_Q} {x0 x1 x2 x3 x4 x6 : Value} {v : Int32} : AW d 29 19 [x0, x1, x2, x3, x4, .int v, x6] (st) σ ρ g τ Q = AW d 29 21 [x0, x1, x2, x3, x4, .int v, x6] (.int v :: st) σ ρ g τ Q := aw_lc m29 d29_19 rfl rfl rfl
theorem d29_21 : decode cX3_gatheredOf 21 = .ok (.aaload, 1) := by decide +kernel
theorem s29_21 {d : Nat} {st : List Value} {σ : am_I} {ρ : am_R} {g : am_J} {τ : am_T} {Q : am_Q} {x0 x1 x2 x3 x4 x5 x6 : Value} {a : Nat} {j : Int32} (ht : 18 ≤ τ.1 a ∧ τ.1 a ≤ 22) (hj : am_inb j (τ.2.1 a) = true) : AW d 29 21 [x0, x1, x2, x3, x4, x5, x6] (.int j :: .ref a :: st) σ ρ g τ Q = AW d 29 22 [x0, x1, x2, x3, x4, x5, x6] (va_rf (ρ a j.toNatClampNeg) :: st) σ ρ g τ Q := aw_aal m29 d29_21 rfl ht hj
theorem d29_22 : decode cX3_gatheredOf 22 = .ok (.invokevirtual 120, 3) := by decide +kernel
theorem s29_22 {d : Nat} {st : List Value} {σ : am_I} {ρ : am_R} {g : am_J} {τ : am_T} {Q : am_Q} {x0 x1 x2 x3 x4 x5 x6 : Value} {p0 : Nat} (ht : τ.1 p0 = 7) (hs : st.length ≤ 4) : AW (d + 1) 29 22 [x0, x1, x2, x3, x4, x5, x6] (.ref p0 :: st) σ ρ g τ Q = AW d 61 0 [.ref p0] [] σ ρ g τ (fun r9 σ ρ g τ => AW (d + 1) 29 25 [x0, x1, x2, x3, x4, x5, x6] (r9.toList ++ st) σ ρ g τ Q) := aw_cv m29 d29_22 rfl m61 rfl rfl (by decide) en61 ok61 rfl ht hs
theorem d29_25 : decode cX3_gatheredOf 25 = .ok (.ifCond .ne 43, 3) := by decide +kernel
theorem s29_25 {d : Nat} {st : List Value} {σ : am_I} {ρ : am_R} {g : am_J} {τ : am_T} {Q : am_Q} {x0 x1 x2 x3 x4 x5 x6 : Value} {v : Int32} : AW d 29 25 [x0, x1, x2, x3, x4, x5, x6] (.int v :: st) σ ρ g τ Q = if ¬ v = 0 then AW d 29 68 [x0, x1, x2, x3, x4, x5, x6] (st) σ ρ g τ Q else AW d 29 28 [x0, x1, x2, x3, x4, x5, x6] (st) σ ρ g τ Q := aw_br m29 d29_25 rfl rfl rfl
theorem d29_28 : decode cX3_gatheredOf 28 = .ok (.aload_n 0, 1) := by decide +kernel
theorem s29_28 {d : Nat} {st : List Value} {σ : am_I} {ρ : am_R} {g : am_J} {τ : am_T} {Q : am_Q} {x1 x2 x3 x4 x5 x6 : Value} {v : Nat} : AW d 29 28 [.ref v, x1, x2, x3, x4, x5, x6] (st) σ ρ g τ Q = AW d 29 29 [.ref v, x1, x2, x3, x4, x5, x6] (.ref v :: st) σ ρ g τ Q := aw_lc m29 d29_28 rfl rfl rfl
theorem d29_29 : decode cX3_gatheredOf 29 = .ok (.aload_n 0, 1) := by decide +kernel
theorem s29_29 {d : Nat} {st : List Value} {σ : am_I} {ρ : am_R} {g : am_J} {τ : am_T} {Q : am_Q} {x1 x2 x3 x4 x5 x6 : Value} {v : Nat} : AW d 29 29 [.ref v, x1, x2, x3, x4, x5, x6] (st) σ ρ g τ Q = AW d 29 30 [.ref v, x1, x2, x3, x4, x5, x6] (.ref v :: st) σ ρ g τ Q := aw_lc m29 d29_29 rfl rfl rfl
theorem d29_30 : decode cX3_gatheredOf 30 = .ok (.getfield 30, 3) := by decide +kernel
theorem s29_30 {d : Nat} {st : List Value} {σ : am_I} {ρ : am_R} {g : am_J} {τ : am_T} {Q : am_Q} {x0 x1 x2 x3 x4 x5 x6 : Value} {a : Nat} (ht : τ.1 a = 3) : AW d 29 30 [x0, x1, x2, x3, x4, x5, x6] (.ref a :: st) σ ρ g τ Q = AW d 29 33 [x0, x1, x2, x3, x4, x5, x6] (va_rf (ρ a 5) :: st) σ ρ g τ Q := aw_gr m29 d29_30 rfl rfl rfl ht
theorem d29_33 : decode cX3_gatheredOf 33 = .ok (.iload 5, 2) := by decide +kernel
theorem s29_33 {d : Nat} {st : List Value} {σ : am_I} {ρ : am_R} {g : am_J} {τ : am_T} {Q : am_Q} {x0 x1 x2 x3 x4 x6 : Value} {v : Int32} : AW d 29 33 [x0, x1, x2, x3, x4, .int v, x6] (st) σ ρ g τ Q = AW d 29 35 [x0, x1, x2, x3, x4, .int v, x6] (.int v :: st) σ ρ g τ Q := aw_lc m29 d29_33 rfl rfl rfl
theorem d29_35 : decode cX3_gatheredOf 35 = .ok (.aaload, 1) := by decide +kernel
theorem s29_35 {d : Nat} {st : List Value} {σ : am_I} {ρ : am_R} {g : am_J} {τ : am_T} {Q : am_Q} {x0 x1 x2 x3 x4 x5 x6 : Value} {a : Nat} {j : Int32} (ht : 18 ≤ τ.1 a ∧ τ.1 a ≤ 22) (hj : am_inb j (τ.2.1 a) = true) : AW d 29 35 [x0, x1, x2, x3, x4, x5, x6] (.int j :: .ref a :: st) σ ρ g τ Q = AW d 29 36 [x0, x1, x2, x3, x4, x5, x6] (va_rf (ρ a j.toNatClampNeg) :: st) σ ρ g τ Q := aw_aal m29 d29_35 rfl ht hj
theorem d29_36 : decode cX3_gatheredOf 36 = .ok (.iload_n 1, 1) := by decide +kernel
theorem s29_36 {d : Nat} {st : List Value} {σ : am_I} {ρ : am_R} {g : am_J} {τ : am_T} {Q : am_Q} {x0 x2 x3 x4 x5 x6 : Value} {v : Int32} : AW d 29 36 [x0, .int v, x2, x3, x4, x5, x6] (st) σ ρ g τ Q = AW d 29 37 [x0, .int v, x2, x3, x4, x5, x6] (.int v :: st) σ ρ g τ Q := aw_lc m29 d29_36 rfl rfl rfl
theorem d29_37 : decode cX3_gatheredOf 37 = .ok (.iload_n 2, 1) := by decide +kernel
theorem s29_37 {d : Nat} {st : List Value} {σ : am_I} {ρ : am_R} {g : am_J} {τ : am_T} {Q : am_Q} {x0 x1 x3 x4 x5 x6 : Value} {v : Int32} : AW d 29 37 [x0, x1, .int v, x3, x4, x5, x6] (st) σ ρ g τ Q = AW d 29 38 [x0, x1, .int v, x3, x4, x5, x6] (.int v :: st) σ ρ g τ Q := aw_lc m29 d29_37 rfl rfl rfl
theorem d29_38 : decode cX3_gatheredOf 38 = .ok (.iload_n 3, 1) := by decide +kernel
theorem s29_38 {d : Nat} {st : List Value} {σ : am_I} {ρ : am_R} {g : am_J} {τ : am_T} {Q : am_Q} {x0 x1 x2 x4 x5 x6 : Value} {v : Int32} : AW d 29 38 [x0, x1, x2, .int v, x4, x5, x6] (st) σ ρ g τ Q = AW d 29 39 [x0, x1, x2, .int v, x4, x5, x6] (.int v :: st) σ ρ g τ Q := aw_lc m29 d29_38 rfl rfl rfl
theorem d29_39 : decode cX3_gatheredOf 39 = .ok (.invokevirtual 124, 3) := by decide +kernel
theorem s29_39 {d : Nat} {st : List Value} {σ : am_I} {ρ : am_R} {g : am_J} {τ : am_T} {Q : am_Q} {x0 x1 x2 x3 x4 x5 x6 : Value} {p0 : Nat} {p1 : Nat} {p2 : Int32} {p3 : Int32} {p4 : Int32} (ht : τ.1 p0 = 3) (hs : st.length ≤ 4) : AW (d + 1) 29 39 [x0, x1, x2, x3, x4, x5, x6] (.int p4 :: .int p3 :: .int p2 :: .ref p1 :: .ref p0 :: st) σ ρ g τ Q = AW d 27 0 [.ref p0, .ref p1, .int p2, .int p3, .int p4] [] σ ρ g τ (fun r9 σ ρ g τ => AW (d + 1) 29 42 [x0, x1, x2, x3, x4, x5, x6] (r9.toList ++ st) σ ρ g τ Q) := aw_cv m29 d29_39 rfl m27 rfl rfl (by decide) en27 ok27 rfl ht hs
theorem d29_42 : decode cX3_gatheredOf 42 = .ok (.istore 6, 2) := by decide +kernel
theorem s29_42 {d : Nat} {st : List Value} {σ : am_I} {ρ : am_R} {g : am_J} {τ : am_T} {Q : am_Q} {x0 x1 x2 x3 x4 x6 : Value} {v : Int32} {u : Int32} : AW d 29 42 [x0, x1, x2, x3, x4, .int u, x6] (.int v :: st) σ ρ g τ Q = AW d 29 44 [x0, x1, x2, x3, x4, .int u, .int v] (st) σ ρ g τ Q := aw_lc m29 d29_42 rfl rfl rfl
theorem d29_44 : decode cX3_gatheredOf 44 = .ok (.iload 4, 2) := by decide +kernel
theorem s29_44 {d : Nat} {st : List Value} {σ : am_I} {ρ : am_R} {g : am_J} {τ : am_T} {Q : am_Q} {x0 x1 x2 x3 x5 x6 : Value} {v : Int32} : AW d 29 44 [x0, x1, x2, x3, .int v, x5, x6] (st) σ ρ g τ Q = AW d 29 46 [x0, x1, x2, x3, .int v, x5, x6] (.int v :: st) σ ρ g τ Q := aw_lc m29 d29_44 rfl rfl rfl
theorem d29_46 : decode cX3_gatheredOf 46 = .ok (.iload 6, 2) := by decide +kernel
theorem s29_46 {d : Nat} {st : List Value} {σ : am_I} {ρ : am_R} {g : am_J} {τ : am_T} {Q : am_Q} {x0 x1 x2 x3 x4 x5 : Value} {v : Int32} : AW d 29 46 [x0, x1, x2, x3, x4, x5, .int v] (st) σ ρ g τ Q = AW d 29 48 [x0, x1, x2, x3, x4, x5, .int v] (.int v :: st) σ ρ g τ Q := aw_lc m29 d29_46 rfl rfl rfl
theorem d29_48 : decode cX3_gatheredOf 48 = .ok (.iload 6, 2) := by decide +kernel
theorem s29_48 {d : Nat} {st : List Value} {σ : am_I} {ρ : am_R} {g : am_J} {τ : am_T} {Q : am_Q} {x0 x1 x2 x3 x4 x5 : Value} {v : Int32} : AW d 29 48 [x0, x1, x2, x3, x4, x5, .int v] (st) σ ρ g τ Q = AW d 29 50 [x0, x1, x2, x3, x4, x5, .int v] (.int v :: st) σ ρ g τ Q := aw_lc m29 d29_48 rfl rfl rfl
theorem d29_50 : decode cX3_gatheredOf 50 = .ok (.iload_n 3, 1) := by decide +kernel
theorem s29_50 {d : Nat} {st : List Value} {σ : am_I} {ρ : am_R} {g : am_J} {τ : am_T} {Q : am_Q} {x0 x1 x2 x4 x5 x6 : Value} {v : Int32} : AW d 29 50 [x0, x1, x2, .int v, x4, x5, x6] (st) σ ρ g τ Q = AW d 29 51 [x0, x1, x2, .int v, x4, x5, x6] (.int v :: st) σ ρ g τ Q := aw_lc m29 d29_50 rfl rfl rfl
theorem d29_51 : decode cX3_gatheredOf 51 = .ok (.aload_n 0, 1) := by decide +kernel
theorem s29_51 {d : Nat} {st : List Value} {σ : am_I} {ρ : am_R} {g : am_J} {τ : am_T} {Q : am_Q} {x1 x2 x3 x4 x5 x6 : Value} {v : Nat} : AW d 29 51 [.ref v, x1, x2, x3, x4, x5, x6] (st) σ ρ g τ Q = AW d 29 52 [.ref v, x1, x2, x3, x4, x5, x6] (.ref v :: st) σ ρ g τ Q := aw_lc m29 d29_51 rfl rfl rfl
theorem d29_52 : decode cX3_gatheredOf 52 = .ok (.getfield 30, 3) := by decide +kernel
theorem s29_52 {d : Nat} {st : List Value} {σ : am_I} {ρ : am_R} {g : am_J} {τ : am_T} {Q : am_Q} {x0 x1 x2 x3 x4 x5 x6 : Value} {a : Nat} (ht : τ.1 a = 3) : AW d 29 52 [x0, x1, x2, x3, x4, x5, x6] (.ref a :: st) σ ρ g τ Q = AW d 29 55 [x0, x1, x2, x3, x4, x5, x6] (va_rf (ρ a 5) :: st) σ ρ g τ Q := aw_gr m29 d29_52 rfl rfl rfl ht
theorem d29_55 : decode cX3_gatheredOf 55 = .ok (.iload 5, 2) := by decide +kernel
theorem s29_55 {d : Nat} {st : List Value} {σ : am_I} {ρ : am_R} {g : am_J} {τ : am_T} {Q : am_Q} {x0 x1 x2 x3 x4 x6 : Value} {v : Int32} : AW d 29 55 [x0, x1, x2, x3, x4, .int v, x6] (st) σ ρ g τ Q = AW d 29 57 [x0, x1, x2, x3, x4, .int v, x6] (.int v :: st) σ ρ g τ Q := aw_lc m29 d29_55 rfl rfl rfl
theorem d29_57 : decode cX3_gatheredOf 57 = .ok (.aaload, 1) := by decide +kernel
theorem s29_57 {d : Nat} {st : List Value} {σ : am_I} {ρ : am_R} {g : am_J} {τ : am_T} {Q : am_Q} {x0 x1 x2 x3 x4 x5 x6 : Value} {a : Nat} {j : Int32} (ht : 18 ≤ τ.1 a ∧ τ.1 a ≤ 22) (hj : am_inb j (τ.2.1 a) = true) : AW d 29 57 [x0, x1, x2, x3, x4, x5, x6] (.int j :: .ref a :: st) σ ρ g τ Q = AW d 29 58 [x0, x1, x2, x3, x4, x5, x6] (va_rf (ρ a j.toNatClampNeg) :: st) σ ρ g τ Q := aw_aal m29 d29_57 rfl ht hj
theorem d29_58 : decode cX3_gatheredOf 58 = .ok (.getfield 128, 3) := by decide +kernel
theorem s29_58 {d : Nat} {st : List Value} {σ : am_I} {ρ : am_R} {g : am_J} {τ : am_T} {Q : am_Q} {x0 x1 x2 x3 x4 x5 x6 : Value} {a : Nat} (ht : τ.1 a = 7) : AW d 29 58 [x0, x1, x2, x3, x4, x5, x6] (.ref a :: st) σ ρ g τ Q = AW d 29 61 [x0, x1, x2, x3, x4, x5, x6] (.int (σ a 3) :: st) σ ρ g τ Q := aw_gi m29 d29_58 rfl rfl rfl ht
theorem d29_61 : decode cX3_gatheredOf 61 = .ok (.invokestatic 131, 3) := by decide +kernel
theorem s29_61 {d : Nat} {st : List Value} {σ : am_I} {ρ : am_R} {g : am_J} {τ : am_T} {Q : am_Q} {x0 x1 x2 x3 x4 x5 x6 : Value} {p0 : Int32} {p1 : Int32} {p2 : Int32} (hs : st.length ≤ 4) : AW (d + 1) 29 61 [x0, x1, x2, x3, x4, x5, x6] (.int p2 :: .int p1 :: .int p0 :: st) σ ρ g τ Q = AW d 28 0 [.int p0, .int p1, .int p2] [] σ ρ g τ (fun r9 σ ρ g τ => AW (d + 1) 29 64 [x0, x1, x2, x3, x4, x5, x6] (r9.toList ++ st) σ ρ g τ Q) := aw_cs m29 d29_61 rfl (by simp only [List.length_cons]; omega) rfl rfl en28 ok28 rfl hs
theorem d29_64 : decode cX3_gatheredOf 64 = .ok (.isub, 1) := by decide +kernel
theorem s29_64 {d : Nat} {st : List Value} {σ : am_I} {ρ : am_R} {g : am_J} {τ : am_T} {Q : am_Q} {x0 x1 x2 x3 x4 x5 x6 : Value} {v w : Int32} : AW d 29 64 [x0, x1, x2, x3, x4, x5, x6] (.int w :: .int v :: st) σ ρ g τ Q = AW d 29 65 [x0, x1, x2, x3, x4, x5, x6] (.int (v - w) :: st) σ ρ g τ Q := aw_lc m29 d29_64 rfl rfl rfl
theorem d29_65 : decode cX3_gatheredOf 65 = .ok (.iadd, 1) := by decide +kernel
theorem s29_65 {d : Nat} {st : List Value} {σ : am_I} {ρ : am_R} {g : am_J} {τ : am_T} {Q : am_Q} {x0 x1 x2 x3 x4 x5 x6 : Value} {v w : Int32} : AW d 29 65 [x0, x1, x2, x3, x4, x5, x6] (.int w :: .int v :: st) σ ρ g τ Q = AW d 29 66 [x0, x1, x2, x3, x4, x5, x6] (.int (v + w) :: st) σ ρ g τ Q := aw_lc m29 d29_65 rfl rfl rfl
theorem d29_66 : decode cX3_gatheredOf 66 = .ok (.istore 4, 2) := by decide +kernel
theorem s29_66 {d : Nat} {st : List Value} {σ : am_I} {ρ : am_R} {g : am_J} {τ : am_T} {Q : am_Q} {x0 x1 x2 x4 x5 x6 : Value} {v : Int32} {u : Int32} : AW d 29 66 [x0, x1, x2, .int u, x4, x5, x6] (.int v :: st) σ ρ g τ Q = AW d 29 68 [x0, x1, x2, .int u, .int v, x5, x6] (st) σ ρ g τ Q := aw_lc m29 d29_66 rfl rfl rfl
theorem d29_68 : decode cX3_gatheredOf 68 = .ok (.iinc 5 1, 3) := by decide +kernel
theorem s29_68 {d : Nat} {st : List Value} {σ : am_I} {ρ : am_R} {g : am_J} {τ : am_T} {Q : am_Q} {x0 x1 x2 x3 x6 : Value} {v : Int32} {u : Int32} : AW d 29 68 [x0, x1, x2, x3, .int u, .int v, x6] (st) σ ρ g τ Q = AW d 29 71 [x0, x1, x2, x3, .int u, .int (v + 1), x6] (st) σ ρ g τ Q := aw_lc m29 d29_68 rfl rfl rfl
theorem d29_71 : decode cX3_gatheredOf 71 = .ok (.goto (-65), 3) := by decide +kernel
theorem s29_71 {d : Nat} {st : List Value} {σ : am_I} {ρ : am_R} {g : am_J} {τ : am_T} {Q : am_Q} {x0 x1 x2 x3 x4 x5 x6 : Value} : AW d 29 71 [x0, x1, x2, x3, x4, x5, x6] (st) σ ρ g τ Q = AW d 29 6 [x0, x1, x2, x3, x4, x5, x6] (st) σ ρ g τ Q := aw_lc m29 d29_71 rfl rfl rfl
theorem d29_74 : decode cX3_gatheredOf 74 = .ok (.iload 4, 2) := by decide +kernel
theorem s29_74 {d : Nat} {st : List Value} {σ : am_I} {ρ : am_R} {g : am_J} {τ : am_T} {Q : am_Q} {x0 x1 x2 x3 x5 x6 : Value} {v : Int32} : AW d 29 74 [x0, x1, x2, x3, .int v, x5, x6] (st) σ ρ g τ Q = AW d 29 76 [x0, x1, x2, x3, .int v, x5, x6] (.int v :: st) σ ρ g τ Q := aw_lc m29 d29_74 rfl rfl rfl
theorem d29_76 : decode cX3_gatheredOf 76 = .ok (.ireturn, 1) := by decide +kernel
theorem s29_76 {d : Nat} {σ : am_I} {ρ : am_R} {g : am_J} {τ : am_T} {Q : am_Q} {x0 x1 x2 x3 x4 x5 x6 : Value} {v : Int32} : AW d 29 76 [x0, x1, x2, x3, x4, x5, x6] ([.int v]) σ ρ g τ Q = Q (some (.int v)) σ ρ g τ := aw_ri m29 d29_76 rfl
theorem d30_0 : decode cX3_roundIn 0 = .ok (.iconst 0, 1) := by decide +kernel
theorem s30_0 {d : Nat} {st : List Value} {σ : am_I} {ρ : am_R} {g : am_J} {τ : am_T} {Q : am_Q} {x0 x1 x2 x3 x4 x5 : Value} : AW d 30 0 [x0, x1, x2, x3, x4, x5] (st) σ ρ g τ Q = AW d 30 1 [x0, x1, x2, x3, x4, x5] (.int 0 :: st) σ ρ g τ Q := aw_lc m30 d30_0 rfl rfl rfl
theorem d30_1 : decode cX3_roundIn 1 = .ok (.istore 4, 2) := by decide +kernel
theorem s30_1 {d : Nat} {st : List Value} {σ : am_I} {ρ : am_R} {g : am_J} {τ : am_T} {Q : am_Q} {x0 x1 x2 x4 x5 : Value} {v : Int32} {u : Int32} : AW d 30 1 [x0, x1, x2, .int u, x4, x5] (.int v :: st) σ ρ g τ Q = AW d 30 3 [x0, x1, x2, .int u, .int v, x5] (st) σ ρ g τ Q := aw_lc m30 d30_1 rfl rfl rfl
theorem d30_3 : decode cX3_roundIn 3 = .ok (.iconst 0, 1) := by decide +kernel
theorem s30_3 {d : Nat} {st : List Value} {σ : am_I} {ρ : am_R} {g : am_J} {τ : am_T} {Q : am_Q} {x0 x1 x2 x3 x4 x5 : Value} : AW d 30 3 [x0, x1, x2, x3, x4, x5] (st) σ ρ g τ Q = AW d 30 4 [x0, x1, x2, x3, x4, x5] (.int 0 :: st) σ ρ g τ Q := aw_lc m30 d30_3 rfl rfl rfl
theorem d30_4 : decode cX3_roundIn 4 = .ok (.istore 5, 2) := by decide +kernel
theorem s30_4 {d : Nat} {st : List Value} {σ : am_I} {ρ : am_R} {g : am_J} {τ : am_T} {Q : am_Q} {x0 x1 x2 x3 x5 : Value} {v : Int32} {u : Int32} : AW d 30 4 [x0, x1, x2, x3, .int u, x5] (.int v :: st) σ ρ g τ Q = AW d 30 6 [x0, x1, x2, x3, .int u, .int v] (st) σ ρ g τ Q := aw_lc m30 d30_4 rfl rfl rfl
theorem d30_6 : decode cX3_roundIn 6 = .ok (.iload 5, 2) := by decide +kernel
theorem s30_6 {d : Nat} {st : List Value} {σ : am_I} {ρ : am_R} {g : am_J} {τ : am_T} {Q : am_Q} {x0 x1 x2 x3 x4 : Value} {v : Int32} : AW d 30 6 [x0, x1, x2, x3, x4, .int v] (st) σ ρ g τ Q = AW d 30 8 [x0, x1, x2, x3, x4, .int v] (.int v :: st) σ ρ g τ Q := aw_lc m30 d30_6 rfl rfl rfl
theorem d30_8 : decode cX3_roundIn 8 = .ok (.iconst 3, 1) := by decide +kernel
theorem s30_8 {d : Nat} {st : List Value} {σ : am_I} {ρ : am_R} {g : am_J} {τ : am_T} {Q : am_Q} {x0 x1 x2 x3 x4 x5 : Value} : AW d 30 8 [x0, x1, x2, x3, x4, x5] (st) σ ρ g τ Q = AW d 30 9 [x0, x1, x2, x3, x4, x5] (.int 3 :: st) σ ρ g τ Q := aw_lc m30 d30_8 rfl rfl rfl
theorem d30_9 : decode cX3_roundIn 9 = .ok (.if_icmp .ge 45, 3) := by decide +kernel
theorem s30_9 {d : Nat} {st : List Value} {σ : am_I} {ρ : am_R} {g : am_J} {τ : am_T} {Q : am_Q} {x0 x1 x2 x3 x4 x5 : Value} {v w : Int32} : AW d 30 9 [x0, x1, x2, x3, x4, x5] (.int w :: .int v :: st) σ ρ g τ Q = if w ≤ v then AW d 30 54 [x0, x1, x2, x3, x4, x5] (st) σ ρ g τ Q else AW d 30 12 [x0, x1, x2, x3, x4, x5] (st) σ ρ g τ Q := aw_br m30 d30_9 rfl rfl rfl
theorem d30_12 : decode cX3_roundIn 12 = .ok (.iload 4, 2) := by decide +kernel
theorem s30_12 {d : Nat} {st : List Value} {σ : am_I} {ρ : am_R} {g : am_J} {τ : am_T} {Q : am_Q} {x0 x1 x2 x3 x5 : Value} {v : Int32} : AW d 30 12 [x0, x1, x2, x3, .int v, x5] (st) σ ρ g τ Q = AW d 30 14 [x0, x1, x2, x3, .int v, x5] (.int v :: st) σ ρ g τ Q := aw_lc m30 d30_12 rfl rfl rfl
theorem d30_14 : decode cX3_roundIn 14 = .ok (.aload_n 0, 1) := by decide +kernel
theorem s30_14 {d : Nat} {st : List Value} {σ : am_I} {ρ : am_R} {g : am_J} {τ : am_T} {Q : am_Q} {x1 x2 x3 x4 x5 : Value} {v : Nat} : AW d 30 14 [.ref v, x1, x2, x3, x4, x5] (st) σ ρ g τ Q = AW d 30 15 [.ref v, x1, x2, x3, x4, x5] (.ref v :: st) σ ρ g τ Q := aw_lc m30 d30_14 rfl rfl rfl
theorem d30_15 : decode cX3_roundIn 15 = .ok (.aload_n 0, 1) := by decide +kernel
theorem s30_15 {d : Nat} {st : List Value} {σ : am_I} {ρ : am_R} {g : am_J} {τ : am_T} {Q : am_Q} {x1 x2 x3 x4 x5 : Value} {v : Nat} : AW d 30 15 [.ref v, x1, x2, x3, x4, x5] (st) σ ρ g τ Q = AW d 30 16 [.ref v, x1, x2, x3, x4, x5] (.ref v :: st) σ ρ g τ Q := aw_lc m30 d30_15 rfl rfl rfl
theorem d30_16 : decode cX3_roundIn 16 = .ok (.getfield 30, 3) := by decide +kernel
theorem s30_16 {d : Nat} {st : List Value} {σ : am_I} {ρ : am_R} {g : am_J} {τ : am_T} {Q : am_Q} {x0 x1 x2 x3 x4 x5 : Value} {a : Nat} (ht : τ.1 a = 3) : AW d 30 16 [x0, x1, x2, x3, x4, x5] (.ref a :: st) σ ρ g τ Q = AW d 30 19 [x0, x1, x2, x3, x4, x5] (va_rf (ρ a 5) :: st) σ ρ g τ Q := aw_gr m30 d30_16 rfl rfl rfl ht
theorem d30_19 : decode cX3_roundIn 19 = .ok (.iload_n 1, 1) := by decide +kernel
theorem s30_19 {d : Nat} {st : List Value} {σ : am_I} {ρ : am_R} {g : am_J} {τ : am_T} {Q : am_Q} {x0 x2 x3 x4 x5 : Value} {v : Int32} : AW d 30 19 [x0, .int v, x2, x3, x4, x5] (st) σ ρ g τ Q = AW d 30 20 [x0, .int v, x2, x3, x4, x5] (.int v :: st) σ ρ g τ Q := aw_lc m30 d30_19 rfl rfl rfl
theorem d30_20 : decode cX3_roundIn 20 = .ok (.aaload, 1) := by decide +kernel
theorem s30_20 {d : Nat} {st : List Value} {σ : am_I} {ρ : am_R} {g : am_J} {τ : am_T} {Q : am_Q} {x0 x1 x2 x3 x4 x5 : Value} {a : Nat} {j : Int32} (ht : 18 ≤ τ.1 a ∧ τ.1 a ≤ 22) (hj : am_inb j (τ.2.1 a) = true) : AW d 30 20 [x0, x1, x2, x3, x4, x5] (.int j :: .ref a :: st) σ ρ g τ Q = AW d 30 21 [x0, x1, x2, x3, x4, x5] (va_rf (ρ a j.toNatClampNeg) :: st) σ ρ g τ Q := aw_aal m30 d30_20 rfl ht hj
theorem d30_21 : decode cX3_roundIn 21 = .ok (.iload 5, 2) := by decide +kernel
theorem s30_21 {d : Nat} {st : List Value} {σ : am_I} {ρ : am_R} {g : am_J} {τ : am_T} {Q : am_Q} {x0 x1 x2 x3 x4 : Value} {v : Int32} : AW d 30 21 [x0, x1, x2, x3, x4, .int v] (st) σ ρ g τ Q = AW d 30 23 [x0, x1, x2, x3, x4, .int v] (.int v :: st) σ ρ g τ Q := aw_lc m30 d30_21 rfl rfl rfl
theorem d30_23 : decode cX3_roundIn 23 = .ok (.iload_n 2, 1) := by decide +kernel
theorem s30_23 {d : Nat} {st : List Value} {σ : am_I} {ρ : am_R} {g : am_J} {τ : am_T} {Q : am_Q} {x0 x1 x3 x4 x5 : Value} {v : Int32} : AW d 30 23 [x0, x1, .int v, x3, x4, x5] (st) σ ρ g τ Q = AW d 30 24 [x0, x1, .int v, x3, x4, x5] (.int v :: st) σ ρ g τ Q := aw_lc m30 d30_23 rfl rfl rfl
theorem d30_24 : decode cX3_roundIn 24 = .ok (.aload_n 0, 1) := by decide +kernel
theorem s30_24 {d : Nat} {st : List Value} {σ : am_I} {ρ : am_R} {g : am_J} {τ : am_T} {Q : am_Q} {x1 x2 x3 x4 x5 : Value} {v : Nat} : AW d 30 24 [.ref v, x1, x2, x3, x4, x5] (st) σ ρ g τ Q = AW d 30 25 [.ref v, x1, x2, x3, x4, x5] (.ref v :: st) σ ρ g τ Q := aw_lc m30 d30_24 rfl rfl rfl
theorem d30_25 : decode cX3_roundIn 25 = .ok (.getfield 18, 3) := by decide +kernel
theorem s30_25 {d : Nat} {st : List Value} {σ : am_I} {ρ : am_R} {g : am_J} {τ : am_T} {Q : am_Q} {x0 x1 x2 x3 x4 x5 : Value} {a : Nat} (ht : τ.1 a = 3) : AW d 30 25 [x0, x1, x2, x3, x4, x5] (.ref a :: st) σ ρ g τ Q = AW d 30 28 [x0, x1, x2, x3, x4, x5] (va_rf (ρ a 2) :: st) σ ρ g τ Q := aw_gr m30 d30_25 rfl rfl rfl ht
theorem d30_28 : decode cX3_roundIn 28 = .ok (.iload 5, 2) := by decide +kernel
theorem s30_28 {d : Nat} {st : List Value} {σ : am_I} {ρ : am_R} {g : am_J} {τ : am_T} {Q : am_Q} {x0 x1 x2 x3 x4 : Value} {v : Int32} : AW d 30 28 [x0, x1, x2, x3, x4, .int v] (st) σ ρ g τ Q = AW d 30 30 [x0, x1, x2, x3, x4, .int v] (.int v :: st) σ ρ g τ Q := aw_lc m30 d30_28 rfl rfl rfl
theorem d30_30 : decode cX3_roundIn 30 = .ok (.iaload, 1) := by decide +kernel
theorem s30_30 {d : Nat} {st : List Value} {σ : am_I} {ρ : am_R} {g : am_J} {τ : am_T} {Q : am_Q} {x0 x1 x2 x3 x4 x5 : Value} {a : Nat} {j : Int32} (ht : τ.1 a = 15) (hj : am_inb j (τ.2.1 a) = true) : AW d 30 30 [x0, x1, x2, x3, x4, x5] (.int j :: .ref a :: st) σ ρ g τ Q = AW d 30 31 [x0, x1, x2, x3, x4, x5] (.int (σ a j.toNatClampNeg) :: st) σ ρ g τ Q := aw_ial m30 d30_30 rfl ht hj
theorem d30_31 : decode cX3_roundIn 31 = .ok (.invokevirtual 124, 3) := by decide +kernel
theorem s30_31 {d : Nat} {st : List Value} {σ : am_I} {ρ : am_R} {g : am_J} {τ : am_T} {Q : am_Q} {x0 x1 x2 x3 x4 x5 : Value} {p0 : Nat} {p1 : Nat} {p2 : Int32} {p3 : Int32} {p4 : Int32} (ht : τ.1 p0 = 3) (hs : st.length ≤ 4) : AW (d + 1) 30 31 [x0, x1, x2, x3, x4, x5] (.int p4 :: .int p3 :: .int p2 :: .ref p1 :: .ref p0 :: st) σ ρ g τ Q = AW d 27 0 [.ref p0, .ref p1, .int p2, .int p3, .int p4] [] σ ρ g τ (fun r9 σ ρ g τ => AW (d + 1) 30 34 [x0, x1, x2, x3, x4, x5] (r9.toList ++ st) σ ρ g τ Q) := aw_cv m30 d30_31 rfl m27 rfl rfl (by decide) en27 ok27 rfl ht hs
theorem d30_34 : decode cX3_roundIn 34 = .ok (.aload_n 0, 1) := by decide +kernel
theorem s30_34 {d : Nat} {st : List Value} {σ : am_I} {ρ : am_R} {g : am_J} {τ : am_T} {Q : am_Q} {x1 x2 x3 x4 x5 : Value} {v : Nat} : AW d 30 34 [.ref v, x1, x2, x3, x4, x5] (st) σ ρ g τ Q = AW d 30 35 [.ref v, x1, x2, x3, x4, x5] (.ref v :: st) σ ρ g τ Q := aw_lc m30 d30_34 rfl rfl rfl
theorem d30_35 : decode cX3_roundIn 35 = .ok (.getfield 18, 3) := by decide +kernel
theorem s30_35 {d : Nat} {st : List Value} {σ : am_I} {ρ : am_R} {g : am_J} {τ : am_T} {Q : am_Q} {x0 x1 x2 x3 x4 x5 : Value} {a : Nat} (ht : τ.1 a = 3) : AW d 30 35 [x0, x1, x2, x3, x4, x5] (.ref a :: st) σ ρ g τ Q = AW d 30 38 [x0, x1, x2, x3, x4, x5] (va_rf (ρ a 2) :: st) σ ρ g τ Q := aw_gr m30 d30_35 rfl rfl rfl ht
theorem d30_38 : decode cX3_roundIn 38 = .ok (.iload 5, 2) := by decide +kernel
theorem s30_38 {d : Nat} {st : List Value} {σ : am_I} {ρ : am_R} {g : am_J} {τ : am_T} {Q : am_Q} {x0 x1 x2 x3 x4 : Value} {v : Int32} : AW d 30 38 [x0, x1, x2, x3, x4, .int v] (st) σ ρ g τ Q = AW d 30 40 [x0, x1, x2, x3, x4, .int v] (.int v :: st) σ ρ g τ Q := aw_lc m30 d30_38 rfl rfl rfl
theorem d30_40 : decode cX3_roundIn 40 = .ok (.iaload, 1) := by decide +kernel
theorem s30_40 {d : Nat} {st : List Value} {σ : am_I} {ρ : am_R} {g : am_J} {τ : am_T} {Q : am_Q} {x0 x1 x2 x3 x4 x5 : Value} {a : Nat} {j : Int32} (ht : τ.1 a = 15) (hj : am_inb j (τ.2.1 a) = true) : AW d 30 40 [x0, x1, x2, x3, x4, x5] (.int j :: .ref a :: st) σ ρ g τ Q = AW d 30 41 [x0, x1, x2, x3, x4, x5] (.int (σ a j.toNatClampNeg) :: st) σ ρ g τ Q := aw_ial m30 d30_40 rfl ht hj
theorem d30_41 : decode cX3_roundIn 41 = .ok (.iload_n 3, 1) := by decide +kernel
theorem s30_41 {d : Nat} {st : List Value} {σ : am_I} {ρ : am_R} {g : am_J} {τ : am_T} {Q : am_Q} {x0 x1 x2 x4 x5 : Value} {v : Int32} : AW d 30 41 [x0, x1, x2, .int v, x4, x5] (st) σ ρ g τ Q = AW d 30 42 [x0, x1, x2, .int v, x4, x5] (.int v :: st) σ ρ g τ Q := aw_lc m30 d30_41 rfl rfl rfl
theorem d30_42 : decode cX3_roundIn 42 = .ok (.invokestatic 131, 3) := by decide +kernel
theorem s30_42 {d : Nat} {st : List Value} {σ : am_I} {ρ : am_R} {g : am_J} {τ : am_T} {Q : am_Q} {x0 x1 x2 x3 x4 x5 : Value} {p0 : Int32} {p1 : Int32} {p2 : Int32} (hs : st.length ≤ 4) : AW (d + 1) 30 42 [x0, x1, x2, x3, x4, x5] (.int p2 :: .int p1 :: .int p0 :: st) σ ρ g τ Q = AW d 28 0 [.int p0, .int p1, .int p2] [] σ ρ g τ (fun r9 σ ρ g τ => AW (d + 1) 30 45 [x0, x1, x2, x3, x4, x5] (r9.toList ++ st) σ ρ g τ Q) := aw_cs m30 d30_42 rfl (by simp only [List.length_cons]; omega) rfl rfl en28 ok28 rfl hs
theorem d30_45 : decode cX3_roundIn 45 = .ok (.iadd, 1) := by decide +kernel
theorem s30_45 {d : Nat} {st : List Value} {σ : am_I} {ρ : am_R} {g : am_J} {τ : am_T} {Q : am_Q} {x0 x1 x2 x3 x4 x5 : Value} {v w : Int32} : AW d 30 45 [x0, x1, x2, x3, x4, x5] (.int w :: .int v :: st) σ ρ g τ Q = AW d 30 46 [x0, x1, x2, x3, x4, x5] (.int (v + w) :: st) σ ρ g τ Q := aw_lc m30 d30_45 rfl rfl rfl
theorem d30_46 : decode cX3_roundIn 46 = .ok (.istore 4, 2) := by decide +kernel
theorem s30_46 {d : Nat} {st : List Value} {σ : am_I} {ρ : am_R} {g : am_J} {τ : am_T} {Q : am_Q} {x0 x1 x2 x4 x5 : Value} {v : Int32} {u : Int32} : AW d 30 46 [x0, x1, x2, .int u, x4, x5] (.int v :: st) σ ρ g τ Q = AW d 30 48 [x0, x1, x2, .int u, .int v, x5] (st) σ ρ g τ Q := aw_lc m30 d30_46 rfl rfl rfl
theorem d30_48 : decode cX3_roundIn 48 = .ok (.iinc 5 1, 3) := by decide +kernel
theorem s30_48 {d : Nat} {st : List Value} {σ : am_I} {ρ : am_R} {g : am_J} {τ : am_T} {Q : am_Q} {x0 x1 x2 x3 : Value} {v : Int32} {u : Int32} : AW d 30 48 [x0, x1, x2, x3, .int u, .int v] (st) σ ρ g τ Q = AW d 30 51 [x0, x1, x2, x3, .int u, .int (v + 1)] (st) σ ρ g τ Q := aw_lc m30 d30_48 rfl rfl rfl
theorem d30_51 : decode cX3_roundIn 51 = .ok (.goto (-45), 3) := by decide +kernel
theorem s30_51 {d : Nat} {st : List Value} {σ : am_I} {ρ : am_R} {g : am_J} {τ : am_T} {Q : am_Q} {x0 x1 x2 x3 x4 x5 : Value} : AW d 30 51 [x0, x1, x2, x3, x4, x5] (st) σ ρ g τ Q = AW d 30 6 [x0, x1, x2, x3, x4, x5] (st) σ ρ g τ Q := aw_lc m30 d30_51 rfl rfl rfl
theorem d30_54 : decode cX3_roundIn 54 = .ok (.iload 4, 2) := by decide +kernel
theorem s30_54 {d : Nat} {st : List Value} {σ : am_I} {ρ : am_R} {g : am_J} {τ : am_T} {Q : am_Q} {x0 x1 x2 x3 x5 : Value} {v : Int32} : AW d 30 54 [x0, x1, x2, x3, .int v, x5] (st) σ ρ g τ Q = AW d 30 56 [x0, x1, x2, x3, .int v, x5] (.int v :: st) σ ρ g τ Q := aw_lc m30 d30_54 rfl rfl rfl
theorem d30_56 : decode cX3_roundIn 56 = .ok (.ireturn, 1) := by decide +kernel
theorem s30_56 {d : Nat} {σ : am_I} {ρ : am_R} {g : am_J} {τ : am_T} {Q : am_Q} {x0 x1 x2 x3 x4 x5 : Value} {v : Int32} : AW d 30 56 [x0, x1, x2, x3, x4, x5] ([.int v]) σ ρ g τ Q = Q (some (.int v)) σ ρ g τ := aw_ri m30 d30_56 rfl
theorem d31_0 : decode cX3_addToTreasury 0 = .ok (.aload_n 0, 1) := by decide +kernel
theorem s31_0 {d : Nat} {st : List Value} {σ : am_I} {ρ : am_R} {g : am_J} {τ : am_T} {Q : am_Q} {x1 : Value} {v : Nat} : AW d 31 0 [.ref v, x1] (st) σ ρ g τ Q = AW d 31 1 [.ref v, x1] (.ref v :: st) σ ρ g τ Q := aw_lc m31 d31_0 rfl rfl rfl
theorem d31_1 : decode cX3_addToTreasury 1 = .ok (.ldc 135, 2) := by decide +kernel
theorem s31_1 {d : Nat} {st : List Value} {σ : am_I} {ρ : am_R} {g : am_J} {τ : am_T} {Q : am_Q} {x0 x1 : Value} : AW d 31 1 [x0, x1] (st) σ ρ g τ Q = AW d 31 3 [x0, x1] (.int 99999 :: st) σ ρ g τ Q := aw_ldi m31 d31_1 rfl rfl
theorem d31_3 : decode cX3_addToTreasury 3 = .ok (.aload_n 0, 1) := by decide +kernel
theorem s31_3 {d : Nat} {st : List Value} {σ : am_I} {ρ : am_R} {g : am_J} {τ : am_T} {Q : am_Q} {x1 : Value} {v : Nat} : AW d 31 3 [.ref v, x1] (st) σ ρ g τ Q = AW d 31 4 [.ref v, x1] (.ref v :: st) σ ρ g τ Q := aw_lc m31 d31_3 rfl rfl rfl
theorem d31_4 : decode cX3_addToTreasury 4 = .ok (.getfield 15, 3) := by decide +kernel
theorem s31_4 {d : Nat} {st : List Value} {σ : am_I} {ρ : am_R} {g : am_J} {τ : am_T} {Q : am_Q} {x0 x1 : Value} {a : Nat} (ht : τ.1 a = 3) : AW d 31 4 [x0, x1] (.ref a :: st) σ ρ g τ Q = AW d 31 7 [x0, x1] (.int (σ a 1) :: st) σ ρ g τ Q := aw_gi m31 d31_4 rfl rfl rfl ht
theorem d31_7 : decode cX3_addToTreasury 7 = .ok (.iload_n 1, 1) := by decide +kernel
theorem s31_7 {d : Nat} {st : List Value} {σ : am_I} {ρ : am_R} {g : am_J} {τ : am_T} {Q : am_Q} {x0 : Value} {v : Int32} : AW d 31 7 [x0, .int v] (st) σ ρ g τ Q = AW d 31 8 [x0, .int v] (.int v :: st) σ ρ g τ Q := aw_lc m31 d31_7 rfl rfl rfl
theorem d31_8 : decode cX3_addToTreasury 8 = .ok (.iadd, 1) := by decide +kernel
theorem s31_8 {d : Nat} {st : List Value} {σ : am_I} {ρ : am_R} {g : am_J} {τ : am_T} {Q : am_Q} {x0 x1 : Value} {v w : Int32} : AW d 31 8 [x0, x1] (.int w :: .int v :: st) σ ρ g τ Q = AW d 31 9 [x0, x1] (.int (v + w) :: st) σ ρ g τ Q := aw_lc m31 d31_8 rfl rfl rfl
theorem d31_9 : decode cX3_addToTreasury 9 = .ok (.invokestatic 136, 3) := by decide +kernel
theorem s31_9 {d : Nat} {st : List Value} {σ : am_I} {ρ : am_R} {g : am_J} {τ : am_T} {Q : am_Q} {x0 x1 : Value} {v w : Int32} (hs : st.length ≤ 4) : AW d 31 9 [x0, x1] (.int w :: .int v :: st) σ ρ g τ Q = AW d 31 12 [x0, x1] (.int (if w < v then w else v) :: st) σ ρ g τ Q := aw_min m31 d31_9 rfl rfl hs
theorem d31_12 : decode cX3_addToTreasury 12 = .ok (.putfield 15, 3) := by decide +kernel
theorem s31_12 {d : Nat} {st : List Value} {σ : am_I} {ρ : am_R} {g : am_J} {τ : am_T} {Q : am_Q} {x0 x1 : Value} {a : Nat} {v : Int32} (ht : τ.1 a = 3) : AW d 31 12 [x0, x1] (.int v :: .ref a :: st) σ ρ g τ Q = AW d 31 15 [x0, x1] (st) (am_u σ a 1 v) ρ g τ Q := aw_pi m31 d31_12 rfl rfl (Or.inl rfl) rfl ht
theorem d31_15 : decode cX3_addToTreasury 15 = .ok (.return_, 1) := by decide +kernel
theorem s31_15 {d : Nat} {σ : am_I} {ρ : am_R} {g : am_J} {τ : am_T} {Q : am_Q} {x0 x1 : Value} : AW d 31 15 [x0, x1] ([]) σ ρ g τ Q = Q none σ ρ g τ := aw_rv m31 d31_15 rfl
theorem d32_0 : decode cX3_payGarrisons 0 = .ok (.iconst 0, 1) := by decide +kernel
theorem s32_0 {d : Nat} {st : List Value} {σ : am_I} {ρ : am_R} {g : am_J} {τ : am_T} {Q : am_Q} {x0 x1 : Value} : AW d 32 0 [x0, x1] (st) σ ρ g τ Q = AW d 32 1 [x0, x1] (.int 0 :: st) σ ρ g τ Q := aw_lc m32 d32_0 rfl rfl rfl
theorem d32_1 : decode cX3_payGarrisons 1 = .ok (.istore_n 1, 1) := by decide +kernel
theorem s32_1r {d : Nat} {st : List Value} {σ : am_I} {ρ : am_R} {g : am_J} {τ : am_T} {Q : am_Q} {x1 : Value} {v : Int32} {u : Nat} : AW d 32 1 [.ref u, x1] (.int v :: st) σ ρ g τ Q = AW d 32 2 [.ref u, .int v] (st) σ ρ g τ Q := aw_lc m32 d32_1 rfl rfl rfl
theorem d32_2 : decode cX3_payGarrisons 2 = .ok (.iload_n 1, 1) := by decide +kernel
theorem s32_2 {d : Nat} {st : List Value} {σ : am_I} {ρ : am_R} {g : am_J} {τ : am_T} {Q : am_Q} {x0 : Value} {v : Int32} : AW d 32 2 [x0, .int v] (st) σ ρ g τ Q = AW d 32 3 [x0, .int v] (.int v :: st) σ ρ g τ Q := aw_lc m32 d32_2 rfl rfl rfl
theorem d32_3 : decode cX3_payGarrisons 3 = .ok (.aload_n 0, 1) := by decide +kernel
theorem s32_3 {d : Nat} {st : List Value} {σ : am_I} {ρ : am_R} {g : am_J} {τ : am_T} {Q : am_Q} {x1 : Value} {v : Nat} : AW d 32 3 [.ref v, x1] (st) σ ρ g τ Q = AW d 32 4 [.ref v, x1] (.ref v :: st) σ ρ g τ Q := aw_lc m32 d32_3 rfl rfl rfl
theorem d32_4 : decode cX3_payGarrisons 4 = .ok (.getfield 34, 3) := by decide +kernel
theorem s32_4 {d : Nat} {st : List Value} {σ : am_I} {ρ : am_R} {g : am_J} {τ : am_T} {Q : am_Q} {x0 x1 : Value} {a : Nat} (ht : τ.1 a = 3) : AW d 32 4 [x0, x1] (.ref a :: st) σ ρ g τ Q = AW d 32 7 [x0, x1] (.int (σ a 6) :: st) σ ρ g τ Q := aw_gi m32 d32_4 rfl rfl rfl ht
theorem d32_7 : decode cX3_payGarrisons 7 = .ok (.if_icmp .ge 71, 3) := by decide +kernel
theorem s32_7 {d : Nat} {st : List Value} {σ : am_I} {ρ : am_R} {g : am_J} {τ : am_T} {Q : am_Q} {x0 x1 : Value} {v w : Int32} : AW d 32 7 [x0, x1] (.int w :: .int v :: st) σ ρ g τ Q = if w ≤ v then AW d 32 78 [x0, x1] (st) σ ρ g τ Q else AW d 32 10 [x0, x1] (st) σ ρ g τ Q := aw_br m32 d32_7 rfl rfl rfl
theorem d32_10 : decode cX3_payGarrisons 10 = .ok (.aload_n 0, 1) := by decide +kernel
theorem s32_10 {d : Nat} {st : List Value} {σ : am_I} {ρ : am_R} {g : am_J} {τ : am_T} {Q : am_Q} {x1 : Value} {v : Nat} : AW d 32 10 [.ref v, x1] (st) σ ρ g τ Q = AW d 32 11 [.ref v, x1] (.ref v :: st) σ ρ g τ Q := aw_lc m32 d32_10 rfl rfl rfl
theorem d32_11 : decode cX3_payGarrisons 11 = .ok (.getfield 15, 3) := by decide +kernel
theorem s32_11 {d : Nat} {st : List Value} {σ : am_I} {ρ : am_R} {g : am_J} {τ : am_T} {Q : am_Q} {x0 x1 : Value} {a : Nat} (ht : τ.1 a = 3) : AW d 32 11 [x0, x1] (.ref a :: st) σ ρ g τ Q = AW d 32 14 [x0, x1] (.int (σ a 1) :: st) σ ρ g τ Q := aw_gi m32 d32_11 rfl rfl rfl ht
theorem d32_14 : decode cX3_payGarrisons 14 = .ok (.aload_n 0, 1) := by decide +kernel
theorem s32_14 {d : Nat} {st : List Value} {σ : am_I} {ρ : am_R} {g : am_J} {τ : am_T} {Q : am_Q} {x1 : Value} {v : Nat} : AW d 32 14 [.ref v, x1] (st) σ ρ g τ Q = AW d 32 15 [.ref v, x1] (.ref v :: st) σ ρ g τ Q := aw_lc m32 d32_14 rfl rfl rfl
theorem d32_15 : decode cX3_payGarrisons 15 = .ok (.getfield 30, 3) := by decide +kernel
theorem s32_15 {d : Nat} {st : List Value} {σ : am_I} {ρ : am_R} {g : am_J} {τ : am_T} {Q : am_Q} {x0 x1 : Value} {a : Nat} (ht : τ.1 a = 3) : AW d 32 15 [x0, x1] (.ref a :: st) σ ρ g τ Q = AW d 32 18 [x0, x1] (va_rf (ρ a 5) :: st) σ ρ g τ Q := aw_gr m32 d32_15 rfl rfl rfl ht
theorem d32_18 : decode cX3_payGarrisons 18 = .ok (.iload_n 1, 1) := by decide +kernel
theorem s32_18 {d : Nat} {st : List Value} {σ : am_I} {ρ : am_R} {g : am_J} {τ : am_T} {Q : am_Q} {x0 : Value} {v : Int32} : AW d 32 18 [x0, .int v] (st) σ ρ g τ Q = AW d 32 19 [x0, .int v] (.int v :: st) σ ρ g τ Q := aw_lc m32 d32_18 rfl rfl rfl
theorem d32_19 : decode cX3_payGarrisons 19 = .ok (.aaload, 1) := by decide +kernel
theorem s32_19 {d : Nat} {st : List Value} {σ : am_I} {ρ : am_R} {g : am_J} {τ : am_T} {Q : am_Q} {x0 x1 : Value} {a : Nat} {j : Int32} (ht : 18 ≤ τ.1 a ∧ τ.1 a ≤ 22) (hj : am_inb j (τ.2.1 a) = true) : AW d 32 19 [x0, x1] (.int j :: .ref a :: st) σ ρ g τ Q = AW d 32 20 [x0, x1] (va_rf (ρ a j.toNatClampNeg) :: st) σ ρ g τ Q := aw_aal m32 d32_19 rfl ht hj
theorem d32_20 : decode cX3_payGarrisons 20 = .ok (.getfield 142, 3) := by decide +kernel
theorem s32_20 {d : Nat} {st : List Value} {σ : am_I} {ρ : am_R} {g : am_J} {τ : am_T} {Q : am_Q} {x0 x1 : Value} {a : Nat} (ht : τ.1 a = 7) : AW d 32 20 [x0, x1] (.ref a :: st) σ ρ g τ Q = AW d 32 23 [x0, x1] (.int (σ a 0) :: st) σ ρ g τ Q := aw_gi m32 d32_20 rfl rfl rfl ht
theorem d32_23 : decode cX3_payGarrisons 23 = .ok (.if_icmp .lt 34, 3) := by decide +kernel
theorem s32_23 {d : Nat} {st : List Value} {σ : am_I} {ρ : am_R} {g : am_J} {τ : am_T} {Q : am_Q} {x0 x1 : Value} {v w : Int32} : AW d 32 23 [x0, x1] (.int w :: .int v :: st) σ ρ g τ Q = if v < w then AW d 32 57 [x0, x1] (st) σ ρ g τ Q else AW d 32 26 [x0, x1] (st) σ ρ g τ Q := aw_br m32 d32_23 rfl rfl rfl
theorem d32_26 : decode cX3_payGarrisons 26 = .ok (.aload_n 0, 1) := by decide +kernel
theorem s32_26 {d : Nat} {st : List Value} {σ : am_I} {ρ : am_R} {g : am_J} {τ : am_T} {Q : am_Q} {x1 : Value} {v : Nat} : AW d 32 26 [.ref v, x1] (st) σ ρ g τ Q = AW d 32 27 [.ref v, x1] (.ref v :: st) σ ρ g τ Q := aw_lc m32 d32_26 rfl rfl rfl
theorem d32_27 : decode cX3_payGarrisons 27 = .ok (.dup, 1) := by decide +kernel
theorem s32_27 {d : Nat} {st : List Value} {σ : am_I} {ρ : am_R} {g : am_J} {τ : am_T} {Q : am_Q} {x0 x1 : Value} {v : Int32} : AW d 32 27 [x0, x1] (.int v :: st) σ ρ g τ Q = AW d 32 28 [x0, x1] (.int v :: .int v :: st) σ ρ g τ Q := aw_lc m32 d32_27 rfl rfl rfl
theorem s32_27r {d : Nat} {st : List Value} {σ : am_I} {ρ : am_R} {g : am_J} {τ : am_T} {Q : am_Q} {x0 x1 : Value} {v : Nat} : AW d 32 27 [x0, x1] (.ref v :: st) σ ρ g τ Q = AW d 32 28 [x0, x1] (.ref v :: .ref v :: st) σ ρ g τ Q := aw_lc m32 d32_27 rfl rfl rfl
theorem d32_28 : decode cX3_payGarrisons 28 = .ok (.getfield 15, 3) := by decide +kernel
theorem s32_28 {d : Nat} {st : List Value} {σ : am_I} {ρ : am_R} {g : am_J} {τ : am_T} {Q : am_Q} {x0 x1 : Value} {a : Nat} (ht : τ.1 a = 3) : AW d 32 28 [x0, x1] (.ref a :: st) σ ρ g τ Q = AW d 32 31 [x0, x1] (.int (σ a 1) :: st) σ ρ g τ Q := aw_gi m32 d32_28 rfl rfl rfl ht
theorem d32_31 : decode cX3_payGarrisons 31 = .ok (.aload_n 0, 1) := by decide +kernel
theorem s32_31 {d : Nat} {st : List Value} {σ : am_I} {ρ : am_R} {g : am_J} {τ : am_T} {Q : am_Q} {x1 : Value} {v : Nat} : AW d 32 31 [.ref v, x1] (st) σ ρ g τ Q = AW d 32 32 [.ref v, x1] (.ref v :: st) σ ρ g τ Q := aw_lc m32 d32_31 rfl rfl rfl
theorem d32_32 : decode cX3_payGarrisons 32 = .ok (.getfield 30, 3) := by decide +kernel
theorem s32_32 {d : Nat} {st : List Value} {σ : am_I} {ρ : am_R} {g : am_J} {τ : am_T} {Q : am_Q} {x0 x1 : Value} {a : Nat} (ht : τ.1 a = 3) : AW d 32 32 [x0, x1] (.ref a :: st) σ ρ g τ Q = AW d 32 35 [x0, x1] (va_rf (ρ a 5) :: st) σ ρ g τ Q := aw_gr m32 d32_32 rfl rfl rfl ht
theorem d32_35 : decode cX3_payGarrisons 35 = .ok (.iload_n 1, 1) := by decide +kernel
theorem s32_35 {d : Nat} {st : List Value} {σ : am_I} {ρ : am_R} {g : am_J} {τ : am_T} {Q : am_Q} {x0 : Value} {v : Int32} : AW d 32 35 [x0, .int v] (st) σ ρ g τ Q = AW d 32 36 [x0, .int v] (.int v :: st) σ ρ g τ Q := aw_lc m32 d32_35 rfl rfl rfl
theorem d32_36 : decode cX3_payGarrisons 36 = .ok (.aaload, 1) := by decide +kernel
theorem s32_36 {d : Nat} {st : List Value} {σ : am_I} {ρ : am_R} {g : am_J} {τ : am_T} {Q : am_Q} {x0 x1 : Value} {a : Nat} {j : Int32} (ht : 18 ≤ τ.1 a ∧ τ.1 a ≤ 22) (hj : am_inb j (τ.2.1 a) = true) : AW d 32 36 [x0, x1] (.int j :: .ref a :: st) σ ρ g τ Q = AW d 32 37 [x0, x1] (va_rf (ρ a j.toNatClampNeg) :: st) σ ρ g τ Q := aw_aal m32 d32_36 rfl ht hj
theorem d32_37 : decode cX3_payGarrisons 37 = .ok (.getfield 142, 3) := by decide +kernel
theorem s32_37 {d : Nat} {st : List Value} {σ : am_I} {ρ : am_R} {g : am_J} {τ : am_T} {Q : am_Q} {x0 x1 : Value} {a : Nat} (ht : τ.1 a = 7) : AW d 32 37 [x0, x1] (.ref a :: st) σ ρ g τ Q = AW d 32 40 [x0, x1] (.int (σ a 0) :: st) σ ρ g τ Q := aw_gi m32 d32_37 rfl rfl rfl ht
theorem d32_40 : decode cX3_payGarrisons 40 = .ok (.isub, 1) := by decide +kernel
theorem s32_40 {d : Nat} {st : List Value} {σ : am_I} {ρ : am_R} {g : am_J} {τ : am_T} {Q : am_Q} {x0 x1 : Value} {v w : Int32} : AW d 32 40 [x0, x1] (.int w :: .int v :: st) σ ρ g τ Q = AW d 32 41 [x0, x1] (.int (v - w) :: st) σ ρ g τ Q := aw_lc m32 d32_40 rfl rfl rfl
theorem d32_41 : decode cX3_payGarrisons 41 = .ok (.putfield 15, 3) := by decide +kernel
theorem s32_41 {d : Nat} {st : List Value} {σ : am_I} {ρ : am_R} {g : am_J} {τ : am_T} {Q : am_Q} {x0 x1 : Value} {a : Nat} {v : Int32} (ht : τ.1 a = 3) : AW d 32 41 [x0, x1] (.int v :: .ref a :: st) σ ρ g τ Q = AW d 32 44 [x0, x1] (st) (am_u σ a 1 v) ρ g τ Q := aw_pi m32 d32_41 rfl rfl (Or.inl rfl) rfl ht
theorem d32_44 : decode cX3_payGarrisons 44 = .ok (.aload_n 0, 1) := by decide +kernel
theorem s32_44 {d : Nat} {st : List Value} {σ : am_I} {ρ : am_R} {g : am_J} {τ : am_T} {Q : am_Q} {x1 : Value} {v : Nat} : AW d 32 44 [.ref v, x1] (st) σ ρ g τ Q = AW d 32 45 [.ref v, x1] (.ref v :: st) σ ρ g τ Q := aw_lc m32 d32_44 rfl rfl rfl
theorem d32_45 : decode cX3_payGarrisons 45 = .ok (.getfield 30, 3) := by decide +kernel
theorem s32_45 {d : Nat} {st : List Value} {σ : am_I} {ρ : am_R} {g : am_J} {τ : am_T} {Q : am_Q} {x0 x1 : Value} {a : Nat} (ht : τ.1 a = 3) : AW d 32 45 [x0, x1] (.ref a :: st) σ ρ g τ Q = AW d 32 48 [x0, x1] (va_rf (ρ a 5) :: st) σ ρ g τ Q := aw_gr m32 d32_45 rfl rfl rfl ht
theorem d32_48 : decode cX3_payGarrisons 48 = .ok (.iload_n 1, 1) := by decide +kernel
theorem s32_48 {d : Nat} {st : List Value} {σ : am_I} {ρ : am_R} {g : am_J} {τ : am_T} {Q : am_Q} {x0 : Value} {v : Int32} : AW d 32 48 [x0, .int v] (st) σ ρ g τ Q = AW d 32 49 [x0, .int v] (.int v :: st) σ ρ g τ Q := aw_lc m32 d32_48 rfl rfl rfl
theorem d32_49 : decode cX3_payGarrisons 49 = .ok (.aaload, 1) := by decide +kernel
theorem s32_49 {d : Nat} {st : List Value} {σ : am_I} {ρ : am_R} {g : am_J} {τ : am_T} {Q : am_Q} {x0 x1 : Value} {a : Nat} {j : Int32} (ht : 18 ≤ τ.1 a ∧ τ.1 a ≤ 22) (hj : am_inb j (τ.2.1 a) = true) : AW d 32 49 [x0, x1] (.int j :: .ref a :: st) σ ρ g τ Q = AW d 32 50 [x0, x1] (va_rf (ρ a j.toNatClampNeg) :: st) σ ρ g τ Q := aw_aal m32 d32_49 rfl ht hj
theorem d32_50 : decode cX3_payGarrisons 50 = .ok (.iconst 0, 1) := by decide +kernel
theorem s32_50 {d : Nat} {st : List Value} {σ : am_I} {ρ : am_R} {g : am_J} {τ : am_T} {Q : am_Q} {x0 x1 : Value} : AW d 32 50 [x0, x1] (st) σ ρ g τ Q = AW d 32 51 [x0, x1] (.int 0 :: st) σ ρ g τ Q := aw_lc m32 d32_50 rfl rfl rfl
theorem d32_51 : decode cX3_payGarrisons 51 = .ok (.putfield 145, 3) := by decide +kernel
theorem s32_51 {d : Nat} {st : List Value} {σ : am_I} {ρ : am_R} {g : am_J} {τ : am_T} {Q : am_Q} {x0 x1 : Value} {a : Nat} {v : Int32} (ht : τ.1 a = 7) : AW d 32 51 [x0, x1] (.int v :: .ref a :: st) σ ρ g τ Q = AW d 32 54 [x0, x1] (st) (am_u σ a 2 v) ρ g τ Q := aw_pi m32 d32_51 rfl rfl (Or.inl rfl) rfl ht
theorem d32_54 : decode cX3_payGarrisons 54 = .ok (.goto 18, 3) := by decide +kernel
theorem s32_54 {d : Nat} {st : List Value} {σ : am_I} {ρ : am_R} {g : am_J} {τ : am_T} {Q : am_Q} {x0 x1 : Value} : AW d 32 54 [x0, x1] (st) σ ρ g τ Q = AW d 32 72 [x0, x1] (st) σ ρ g τ Q := aw_lc m32 d32_54 rfl rfl rfl
theorem d32_57 : decode cX3_payGarrisons 57 = .ok (.aload_n 0, 1) := by decide +kernel
theorem s32_57 {d : Nat} {st : List Value} {σ : am_I} {ρ : am_R} {g : am_J} {τ : am_T} {Q : am_Q} {x1 : Value} {v : Nat} : AW d 32 57 [.ref v, x1] (st) σ ρ g τ Q = AW d 32 58 [.ref v, x1] (.ref v :: st) σ ρ g τ Q := aw_lc m32 d32_57 rfl rfl rfl
theorem d32_58 : decode cX3_payGarrisons 58 = .ok (.getfield 30, 3) := by decide +kernel
theorem s32_58 {d : Nat} {st : List Value} {σ : am_I} {ρ : am_R} {g : am_J} {τ : am_T} {Q : am_Q} {x0 x1 : Value} {a : Nat} (ht : τ.1 a = 3) : AW d 32 58 [x0, x1] (.ref a :: st) σ ρ g τ Q = AW d 32 61 [x0, x1] (va_rf (ρ a 5) :: st) σ ρ g τ Q := aw_gr m32 d32_58 rfl rfl rfl ht
theorem d32_61 : decode cX3_payGarrisons 61 = .ok (.iload_n 1, 1) := by decide +kernel
theorem s32_61 {d : Nat} {st : List Value} {σ : am_I} {ρ : am_R} {g : am_J} {τ : am_T} {Q : am_Q} {x0 : Value} {v : Int32} : AW d 32 61 [x0, .int v] (st) σ ρ g τ Q = AW d 32 62 [x0, .int v] (.int v :: st) σ ρ g τ Q := aw_lc m32 d32_61 rfl rfl rfl
theorem d32_62 : decode cX3_payGarrisons 62 = .ok (.aaload, 1) := by decide +kernel
theorem s32_62 {d : Nat} {st : List Value} {σ : am_I} {ρ : am_R} {g : am_J} {τ : am_T} {Q : am_Q} {x0 x1 : Value} {a : Nat} {j : Int32} (ht : 18 ≤ τ.1 a ∧ τ.1 a ≤ 22) (hj : am_inb j (τ.2.1 a) = true) : AW d 32 62 [x0, x1] (.int j :: .ref a :: st) σ ρ g τ Q = AW d 32 63 [x0, x1] (va_rf (ρ a j.toNatClampNeg) :: st) σ ρ g τ Q := aw_aal m32 d32_62 rfl ht hj
theorem d32_63 : decode cX3_payGarrisons 63 = .ok (.dup, 1) := by decide +kernel
theorem s32_63 {d : Nat} {st : List Value} {σ : am_I} {ρ : am_R} {g : am_J} {τ : am_T} {Q : am_Q} {x0 x1 : Value} {v : Int32} : AW d 32 63 [x0, x1] (.int v :: st) σ ρ g τ Q = AW d 32 64 [x0, x1] (.int v :: .int v :: st) σ ρ g τ Q := aw_lc m32 d32_63 rfl rfl rfl
theorem s32_63r {d : Nat} {st : List Value} {σ : am_I} {ρ : am_R} {g : am_J} {τ : am_T} {Q : am_Q} {x0 x1 : Value} {v : Nat} : AW d 32 63 [x0, x1] (.ref v :: st) σ ρ g τ Q = AW d 32 64 [x0, x1] (.ref v :: .ref v :: st) σ ρ g τ Q := aw_lc m32 d32_63 rfl rfl rfl
theorem d32_64 : decode cX3_payGarrisons 64 = .ok (.getfield 145, 3) := by decide +kernel
theorem s32_64 {d : Nat} {st : List Value} {σ : am_I} {ρ : am_R} {g : am_J} {τ : am_T} {Q : am_Q} {x0 x1 : Value} {a : Nat} (ht : τ.1 a = 7) : AW d 32 64 [x0, x1] (.ref a :: st) σ ρ g τ Q = AW d 32 67 [x0, x1] (.int (σ a 2) :: st) σ ρ g τ Q := aw_gi m32 d32_64 rfl rfl rfl ht
theorem d32_67 : decode cX3_payGarrisons 67 = .ok (.iconst 1, 1) := by decide +kernel
theorem s32_67 {d : Nat} {st : List Value} {σ : am_I} {ρ : am_R} {g : am_J} {τ : am_T} {Q : am_Q} {x0 x1 : Value} : AW d 32 67 [x0, x1] (st) σ ρ g τ Q = AW d 32 68 [x0, x1] (.int 1 :: st) σ ρ g τ Q := aw_lc m32 d32_67 rfl rfl rfl
theorem d32_68 : decode cX3_payGarrisons 68 = .ok (.iadd, 1) := by decide +kernel
theorem s32_68 {d : Nat} {st : List Value} {σ : am_I} {ρ : am_R} {g : am_J} {τ : am_T} {Q : am_Q} {x0 x1 : Value} {v w : Int32} : AW d 32 68 [x0, x1] (.int w :: .int v :: st) σ ρ g τ Q = AW d 32 69 [x0, x1] (.int (v + w) :: st) σ ρ g τ Q := aw_lc m32 d32_68 rfl rfl rfl
theorem d32_69 : decode cX3_payGarrisons 69 = .ok (.putfield 145, 3) := by decide +kernel
theorem s32_69 {d : Nat} {st : List Value} {σ : am_I} {ρ : am_R} {g : am_J} {τ : am_T} {Q : am_Q} {x0 x1 : Value} {a : Nat} {v : Int32} (ht : τ.1 a = 7) : AW d 32 69 [x0, x1] (.int v :: .ref a :: st) σ ρ g τ Q = AW d 32 72 [x0, x1] (st) (am_u σ a 2 v) ρ g τ Q := aw_pi m32 d32_69 rfl rfl (Or.inl rfl) rfl ht
theorem d32_72 : decode cX3_payGarrisons 72 = .ok (.iinc 1 1, 3) := by decide +kernel
theorem s32_72r {d : Nat} {st : List Value} {σ : am_I} {ρ : am_R} {g : am_J} {τ : am_T} {Q : am_Q} {v : Int32} {u : Nat} : AW d 32 72 [.ref u, .int v] (st) σ ρ g τ Q = AW d 32 75 [.ref u, .int (v + 1)] (st) σ ρ g τ Q := aw_lc m32 d32_72 rfl rfl rfl
theorem d32_75 : decode cX3_payGarrisons 75 = .ok (.goto (-73), 3) := by decide +kernel
theorem s32_75 {d : Nat} {st : List Value} {σ : am_I} {ρ : am_R} {g : am_J} {τ : am_T} {Q : am_Q} {x0 x1 : Value} : AW d 32 75 [x0, x1] (st) σ ρ g τ Q = AW d 32 2 [x0, x1] (st) σ ρ g τ Q := aw_lc m32 d32_75 rfl rfl rfl
theorem d32_78 : decode cX3_payGarrisons 78 = .ok (.return_, 1) := by decide +kernel
theorem s32_78 {d : Nat} {σ : am_I} {ρ : am_R} {g : am_J} {τ : am_T} {Q : am_Q} {x0 x1 : Value} : AW d 32 78 [x0, x1] ([]) σ ρ g τ Q = Q none σ ρ g τ := aw_rv m32 d32_78 rfl
theorem d33_0 : decode cX3_movePrices 0 = .ok (.iconst 0, 1) := by decide +kernel
theorem s33_0 {d : Nat} {st : List Value} {σ : am_I} {ρ : am_R} {g : am_J} {τ : am_T} {Q : am_Q} {x0 x1 : Value} : AW d 33 0 [x0, x1] (st) σ ρ g τ Q = AW d 33 1 [x0, x1] (.int 0 :: st) σ ρ g τ Q := aw_lc m33 d33_0 rfl rfl rfl
theorem d33_1 : decode cX3_movePrices 1 = .ok (.istore_n 1, 1) := by decide +kernel
theorem s33_1r {d : Nat} {st : List Value} {σ : am_I} {ρ : am_R} {g : am_J} {τ : am_T} {Q : am_Q} {x1 : Value} {v : Int32} {u : Nat} : AW d 33 1 [.ref u, x1] (.int v :: st) σ ρ g τ Q = AW d 33 2 [.ref u, .int v] (st) σ ρ g τ Q := aw_lc m33 d33_1 rfl rfl rfl
theorem d33_2 : decode cX3_movePrices 2 = .ok (.iload_n 1, 1) := by decide +kernel
theorem s33_2 {d : Nat} {st : List Value} {σ : am_I} {ρ : am_R} {g : am_J} {τ : am_T} {Q : am_Q} {x0 : Value} {v : Int32} : AW d 33 2 [x0, .int v] (st) σ ρ g τ Q = AW d 33 3 [x0, .int v] (.int v :: st) σ ρ g τ Q := aw_lc m33 d33_2 rfl rfl rfl
theorem d33_3 : decode cX3_movePrices 3 = .ok (.aload_n 0, 1) := by decide +kernel
theorem s33_3 {d : Nat} {st : List Value} {σ : am_I} {ρ : am_R} {g : am_J} {τ : am_T} {Q : am_Q} {x1 : Value} {v : Nat} : AW d 33 3 [.ref v, x1] (st) σ ρ g τ Q = AW d 33 4 [.ref v, x1] (.ref v :: st) σ ρ g τ Q := aw_lc m33 d33_3 rfl rfl rfl
theorem d33_4 : decode cX3_movePrices 4 = .ok (.getfield 43, 3) := by decide +kernel
theorem s33_4 {d : Nat} {st : List Value} {σ : am_I} {ρ : am_R} {g : am_J} {τ : am_T} {Q : am_Q} {x0 x1 : Value} {a : Nat} (ht : τ.1 a = 3) : AW d 33 4 [x0, x1] (.ref a :: st) σ ρ g τ Q = AW d 33 7 [x0, x1] (.int (σ a 8) :: st) σ ρ g τ Q := aw_gi m33 d33_4 rfl rfl rfl ht
theorem d33_7 : decode cX3_movePrices 7 = .ok (.if_icmp .ge 30, 3) := by decide +kernel
theorem s33_7 {d : Nat} {st : List Value} {σ : am_I} {ρ : am_R} {g : am_J} {τ : am_T} {Q : am_Q} {x0 x1 : Value} {v w : Int32} : AW d 33 7 [x0, x1] (.int w :: .int v :: st) σ ρ g τ Q = if w ≤ v then AW d 33 37 [x0, x1] (st) σ ρ g τ Q else AW d 33 10 [x0, x1] (st) σ ρ g τ Q := aw_br m33 d33_7 rfl rfl rfl
theorem d33_10 : decode cX3_movePrices 10 = .ok (.aload_n 0, 1) := by decide +kernel
theorem s33_10 {d : Nat} {st : List Value} {σ : am_I} {ρ : am_R} {g : am_J} {τ : am_T} {Q : am_Q} {x1 : Value} {v : Nat} : AW d 33 10 [.ref v, x1] (st) σ ρ g τ Q = AW d 33 11 [.ref v, x1] (.ref v :: st) σ ρ g τ Q := aw_lc m33 d33_10 rfl rfl rfl
theorem d33_11 : decode cX3_movePrices 11 = .ok (.getfield 39, 3) := by decide +kernel
theorem s33_11 {d : Nat} {st : List Value} {σ : am_I} {ρ : am_R} {g : am_J} {τ : am_T} {Q : am_Q} {x0 x1 : Value} {a : Nat} (ht : τ.1 a = 3) : AW d 33 11 [x0, x1] (.ref a :: st) σ ρ g τ Q = AW d 33 14 [x0, x1] (va_rf (ρ a 7) :: st) σ ρ g τ Q := aw_gr m33 d33_11 rfl rfl rfl ht
theorem d33_14 : decode cX3_movePrices 14 = .ok (.iload_n 1, 1) := by decide +kernel
theorem s33_14 {d : Nat} {st : List Value} {σ : am_I} {ρ : am_R} {g : am_J} {τ : am_T} {Q : am_Q} {x0 : Value} {v : Int32} : AW d 33 14 [x0, .int v] (st) σ ρ g τ Q = AW d 33 15 [x0, .int v] (.int v :: st) σ ρ g τ Q := aw_lc m33 d33_14 rfl rfl rfl
theorem d33_15 : decode cX3_movePrices 15 = .ok (.aaload, 1) := by decide +kernel
theorem s33_15 {d : Nat} {st : List Value} {σ : am_I} {ρ : am_R} {g : am_J} {τ : am_T} {Q : am_Q} {x0 x1 : Value} {a : Nat} {j : Int32} (ht : 18 ≤ τ.1 a ∧ τ.1 a ≤ 22) (hj : am_inb j (τ.2.1 a) = true) : AW d 33 15 [x0, x1] (.int j :: .ref a :: st) σ ρ g τ Q = AW d 33 16 [x0, x1] (va_rf (ρ a j.toNatClampNeg) :: st) σ ρ g τ Q := aw_aal m33 d33_15 rfl ht hj
theorem d33_16 : decode cX3_movePrices 16 = .ok (.getfield 148, 3) := by decide +kernel
theorem s33_16 {d : Nat} {st : List Value} {σ : am_I} {ρ : am_R} {g : am_J} {τ : am_T} {Q : am_Q} {x0 x1 : Value} {a : Nat} (ht : τ.1 a = 1) : AW d 33 16 [x0, x1] (.ref a :: st) σ ρ g τ Q = AW d 33 19 [x0, x1] (.int (σ a 1) :: st) σ ρ g τ Q := aw_gi m33 d33_16 rfl rfl rfl ht
theorem d33_19 : decode cX3_movePrices 19 = .ok (.ifCond .ne 12, 3) := by decide +kernel
theorem s33_19 {d : Nat} {st : List Value} {σ : am_I} {ρ : am_R} {g : am_J} {τ : am_T} {Q : am_Q} {x0 x1 : Value} {v : Int32} : AW d 33 19 [x0, x1] (.int v :: st) σ ρ g τ Q = if ¬ v = 0 then AW d 33 31 [x0, x1] (st) σ ρ g τ Q else AW d 33 22 [x0, x1] (st) σ ρ g τ Q := aw_br m33 d33_19 rfl rfl rfl
theorem d33_22 : decode cX3_movePrices 22 = .ok (.aload_n 0, 1) := by decide +kernel
theorem s33_22 {d : Nat} {st : List Value} {σ : am_I} {ρ : am_R} {g : am_J} {τ : am_T} {Q : am_Q} {x1 : Value} {v : Nat} : AW d 33 22 [.ref v, x1] (st) σ ρ g τ Q = AW d 33 23 [.ref v, x1] (.ref v :: st) σ ρ g τ Q := aw_lc m33 d33_22 rfl rfl rfl
theorem d33_23 : decode cX3_movePrices 23 = .ok (.getfield 39, 3) := by decide +kernel
theorem s33_23 {d : Nat} {st : List Value} {σ : am_I} {ρ : am_R} {g : am_J} {τ : am_T} {Q : am_Q} {x0 x1 : Value} {a : Nat} (ht : τ.1 a = 3) : AW d 33 23 [x0, x1] (.ref a :: st) σ ρ g τ Q = AW d 33 26 [x0, x1] (va_rf (ρ a 7) :: st) σ ρ g τ Q := aw_gr m33 d33_23 rfl rfl rfl ht
theorem d33_26 : decode cX3_movePrices 26 = .ok (.iload_n 1, 1) := by decide +kernel
theorem s33_26 {d : Nat} {st : List Value} {σ : am_I} {ρ : am_R} {g : am_J} {τ : am_T} {Q : am_Q} {x0 : Value} {v : Int32} : AW d 33 26 [x0, .int v] (st) σ ρ g τ Q = AW d 33 27 [x0, .int v] (.int v :: st) σ ρ g τ Q := aw_lc m33 d33_26 rfl rfl rfl
theorem d33_27 : decode cX3_movePrices 27 = .ok (.aaload, 1) := by decide +kernel
theorem s33_27 {d : Nat} {st : List Value} {σ : am_I} {ρ : am_R} {g : am_J} {τ : am_T} {Q : am_Q} {x0 x1 : Value} {a : Nat} {j : Int32} (ht : 18 ≤ τ.1 a ∧ τ.1 a ≤ 22) (hj : am_inb j (τ.2.1 a) = true) : AW d 33 27 [x0, x1] (.int j :: .ref a :: st) σ ρ g τ Q = AW d 33 28 [x0, x1] (va_rf (ρ a j.toNatClampNeg) :: st) σ ρ g τ Q := aw_aal m33 d33_27 rfl ht hj
theorem d33_28 : decode cX3_movePrices 28 = .ok (.invokevirtual 151, 3) := by decide +kernel
theorem s33_28 {d : Nat} {st : List Value} {σ : am_I} {ρ : am_R} {g : am_J} {τ : am_T} {Q : am_Q} {x0 x1 : Value} {p0 : Nat} (ht : τ.1 p0 = 1) (hs : st.length ≤ 4) : AW (d + 1) 33 28 [x0, x1] (.ref p0 :: st) σ ρ g τ Q = AW d 12 0 [.ref p0, am_jk] [] σ ρ g τ (fun r9 σ ρ g τ => AW (d + 1) 33 31 [x0, x1] (r9.toList ++ st) σ ρ g τ Q) := aw_cv m33 d33_28 rfl m12 rfl rfl (by decide) en12 ok12 rfl ht hs
theorem d33_31 : decode cX3_movePrices 31 = .ok (.iinc 1 1, 3) := by decide +kernel
theorem s33_31r {d : Nat} {st : List Value} {σ : am_I} {ρ : am_R} {g : am_J} {τ : am_T} {Q : am_Q} {v : Int32} {u : Nat} : AW d 33 31 [.ref u, .int v] (st) σ ρ g τ Q = AW d 33 34 [.ref u, .int (v + 1)] (st) σ ρ g τ Q := aw_lc m33 d33_31 rfl rfl rfl
theorem d33_34 : decode cX3_movePrices 34 = .ok (.goto (-32), 3) := by decide +kernel
theorem s33_34 {d : Nat} {st : List Value} {σ : am_I} {ρ : am_R} {g : am_J} {τ : am_T} {Q : am_Q} {x0 x1 : Value} : AW d 33 34 [x0, x1] (st) σ ρ g τ Q = AW d 33 2 [x0, x1] (st) σ ρ g τ Q := aw_lc m33 d33_34 rfl rfl rfl
theorem d33_37 : decode cX3_movePrices 37 = .ok (.return_, 1) := by decide +kernel
theorem s33_37 {d : Nat} {σ : am_I} {ρ : am_R} {g : am_J} {τ : am_T} {Q : am_Q} {x0 x1 : Value} : AW d 33 37 [x0, x1] ([]) σ ρ g τ Q = Q none σ ρ g τ := aw_rv m33 d33_37 rfl
theorem d34_0 : decode cX3_knownPrice 0 = .ok (.aload_n 2, 1) := by decide +kernel
theorem s34_0 {d : Nat} {st : List Value} {σ : am_I} {ρ : am_R} {g : am_J} {τ : am_T} {Q : am_Q} {x0 x1 : Value} {v : Nat} : AW d 34 0 [x0, x1, .ref v] (st) σ ρ g τ Q = AW d 34 1 [x0, x1, .ref v] (.ref v :: st) σ ρ g τ Q := aw_lc m34 d34_0 rfl rfl rfl
theorem d34_1 : decode cX3_knownPrice 1 = .ok (.getfield 154, 3) := by decide +kernel
theorem s34_1 {d : Nat} {st : List Value} {σ : am_I} {ρ : am_R} {g : am_J} {τ : am_T} {Q : am_Q} {x0 x1 x2 : Value} {a : Nat} (ht : τ.1 a = 1) : AW d 34 1 [x0, x1, x2] (.ref a :: st) σ ρ g τ Q = AW d 34 4 [x0, x1, x2] (va_rf (ρ a 9) :: st) σ ρ g τ Q := aw_gr m34 d34_1 rfl rfl rfl ht
theorem d34_4 : decode cX3_knownPrice 4 = .ok (.aload_n 0, 1) := by decide +kernel
theorem s34_4 {d : Nat} {st : List Value} {σ : am_I} {ρ : am_R} {g : am_J} {τ : am_T} {Q : am_Q} {x1 x2 : Value} {v : Nat} : AW d 34 4 [.ref v, x1, x2] (st) σ ρ g τ Q = AW d 34 5 [.ref v, x1, x2] (.ref v :: st) σ ρ g τ Q := aw_lc m34 d34_4 rfl rfl rfl
theorem d34_5 : decode cX3_knownPrice 5 = .ok (.getfield 25, 3) := by decide +kernel
theorem s34_5 {d : Nat} {st : List Value} {σ : am_I} {ρ : am_R} {g : am_J} {τ : am_T} {Q : am_Q} {x0 x1 x2 : Value} {a : Nat} (ht : τ.1 a = 3) : AW d 34 5 [x0, x1, x2] (.ref a :: st) σ ρ g τ Q = AW d 34 8 [x0, x1, x2] (va_rf (ρ a 4) :: st) σ ρ g τ Q := aw_gr m34 d34_5 rfl rfl rfl ht
theorem d34_8 : decode cX3_knownPrice 8 = .ok (.iload_n 1, 1) := by decide +kernel
theorem s34_8 {d : Nat} {st : List Value} {σ : am_I} {ρ : am_R} {g : am_J} {τ : am_T} {Q : am_Q} {x0 x2 : Value} {v : Int32} : AW d 34 8 [x0, .int v, x2] (st) σ ρ g τ Q = AW d 34 9 [x0, .int v, x2] (.int v :: st) σ ρ g τ Q := aw_lc m34 d34_8 rfl rfl rfl
theorem d34_9 : decode cX3_knownPrice 9 = .ok (.iaload, 1) := by decide +kernel
theorem s34_9 {d : Nat} {st : List Value} {σ : am_I} {ρ : am_R} {g : am_J} {τ : am_T} {Q : am_Q} {x0 x1 x2 : Value} {a : Nat} {j : Int32} (ht : τ.1 a = 15) (hj : am_inb j (τ.2.1 a) = true) : AW d 34 9 [x0, x1, x2] (.int j :: .ref a :: st) σ ρ g τ Q = AW d 34 10 [x0, x1, x2] (.int (σ a j.toNatClampNeg) :: st) σ ρ g τ Q := aw_ial m34 d34_9 rfl ht hj
theorem d34_10 : decode cX3_knownPrice 10 = .ok (.iaload, 1) := by decide +kernel
theorem s34_10 {d : Nat} {st : List Value} {σ : am_I} {ρ : am_R} {g : am_J} {τ : am_T} {Q : am_Q} {x0 x1 x2 : Value} {a : Nat} {j : Int32} (ht : τ.1 a = 15) (hj : am_inb j (τ.2.1 a) = true) : AW d 34 10 [x0, x1, x2] (.int j :: .ref a :: st) σ ρ g τ Q = AW d 34 11 [x0, x1, x2] (.int (σ a j.toNatClampNeg) :: st) σ ρ g τ Q := aw_ial m34 d34_10 rfl ht hj
theorem d34_11 : decode cX3_knownPrice 11 = .ok (.ireturn, 1) := by decide +kernel
theorem s34_11 {d : Nat} {σ : am_I} {ρ : am_R} {g : am_J} {τ : am_T} {Q : am_Q} {x0 x1 x2 : Value} {v : Int32} : AW d 34 11 [x0, x1, x2] ([.int v]) σ ρ g τ Q = Q (some (.int v)) σ ρ g τ := aw_ri m34 d34_11 rfl
theorem d35_0 : decode cX3_worthOf 0 = .ok (.aload_n 1, 1) := by decide +kernel
theorem s35_0 {d : Nat} {st : List Value} {σ : am_I} {ρ : am_R} {g : am_J} {τ : am_T} {Q : am_Q} {x0 : Value} {v : Nat} : AW d 35 0 [x0, .ref v] (st) σ ρ g τ Q = AW d 35 1 [x0, .ref v] (.ref v :: st) σ ρ g τ Q := aw_lc m35 d35_0 rfl rfl rfl
theorem d35_1 : decode cX3_worthOf 1 = .ok (.getfield 157, 3) := by decide +kernel
theorem s35_1 {d : Nat} {st : List Value} {σ : am_I} {ρ : am_R} {g : am_J} {τ : am_T} {Q : am_Q} {x0 x1 : Value} {a : Nat} (ht : τ.1 a = 1) : AW d 35 1 [x0, x1] (.ref a :: st) σ ρ g τ Q = AW d 35 4 [x0, x1] (.int (σ a 4) :: st) σ ρ g τ Q := aw_gi m35 d35_1 rfl rfl rfl ht
theorem d35_4 : decode cX3_worthOf 4 = .ok (.ifCond .le 25, 3) := by decide +kernel
theorem s35_4 {d : Nat} {st : List Value} {σ : am_I} {ρ : am_R} {g : am_J} {τ : am_T} {Q : am_Q} {x0 x1 : Value} {v : Int32} : AW d 35 4 [x0, x1] (.int v :: st) σ ρ g τ Q = if v ≤ 0 then AW d 35 29 [x0, x1] (st) σ ρ g τ Q else AW d 35 7 [x0, x1] (st) σ ρ g τ Q := aw_br m35 d35_4 rfl rfl rfl
theorem d35_7 : decode cX3_worthOf 7 = .ok (.aload_n 1, 1) := by decide +kernel
theorem s35_7 {d : Nat} {st : List Value} {σ : am_I} {ρ : am_R} {g : am_J} {τ : am_T} {Q : am_Q} {x0 : Value} {v : Nat} : AW d 35 7 [x0, .ref v] (st) σ ρ g τ Q = AW d 35 8 [x0, .ref v] (.ref v :: st) σ ρ g τ Q := aw_lc m35 d35_7 rfl rfl rfl
theorem d35_8 : decode cX3_worthOf 8 = .ok (.getfield 160, 3) := by decide +kernel
theorem s35_8 {d : Nat} {st : List Value} {σ : am_I} {ρ : am_R} {g : am_J} {τ : am_T} {Q : am_Q} {x0 x1 : Value} {a : Nat} (ht : τ.1 a = 1) : AW d 35 8 [x0, x1] (.ref a :: st) σ ρ g τ Q = AW d 35 11 [x0, x1] (.int (σ a 3) :: st) σ ρ g τ Q := aw_gi m35 d35_8 rfl rfl rfl ht
theorem d35_11 : decode cX3_worthOf 11 = .ok (.aload_n 0, 1) := by decide +kernel
theorem s35_11 {d : Nat} {st : List Value} {σ : am_I} {ρ : am_R} {g : am_J} {τ : am_T} {Q : am_Q} {x1 : Value} {v : Nat} : AW d 35 11 [.ref v, x1] (st) σ ρ g τ Q = AW d 35 12 [.ref v, x1] (.ref v :: st) σ ρ g τ Q := aw_lc m35 d35_11 rfl rfl rfl
theorem d35_12 : decode cX3_worthOf 12 = .ok (.aload_n 1, 1) := by decide +kernel
theorem s35_12 {d : Nat} {st : List Value} {σ : am_I} {ρ : am_R} {g : am_J} {τ : am_T} {Q : am_Q} {x0 : Value} {v : Nat} : AW d 35 12 [x0, .ref v] (st) σ ρ g τ Q = AW d 35 13 [x0, .ref v] (.ref v :: st) σ ρ g τ Q := aw_lc m35 d35_12 rfl rfl rfl
theorem d35_13 : decode cX3_worthOf 13 = .ok (.getfield 163, 3) := by decide +kernel
theorem s35_13 {d : Nat} {st : List Value} {σ : am_I} {ρ : am_R} {g : am_J} {τ : am_T} {Q : am_Q} {x0 x1 : Value} {a : Nat} (ht : τ.1 a = 1) : AW d 35 13 [x0, x1] (.ref a :: st) σ ρ g τ Q = AW d 35 16 [x0, x1] (.int (σ a 0) :: st) σ ρ g τ Q := aw_gi m35 d35_13 rfl rfl rfl ht
theorem d35_16 : decode cX3_worthOf 16 = .ok (.aload_n 1, 1) := by decide +kernel
theorem s35_16 {d : Nat} {st : List Value} {σ : am_I} {ρ : am_R} {g : am_J} {τ : am_T} {Q : am_Q} {x0 : Value} {v : Nat} : AW d 35 16 [x0, .ref v] (st) σ ρ g τ Q = AW d 35 17 [x0, .ref v] (.ref v :: st) σ ρ g τ Q := aw_lc m35 d35_16 rfl rfl rfl
theorem d35_17 : decode cX3_worthOf 17 = .ok (.invokevirtual 166, 3) := by decide +kernel
theorem s35_17 {d : Nat} {st : List Value} {σ : am_I} {ρ : am_R} {g : am_J} {τ : am_T} {Q : am_Q} {x0 x1 : Value} {p0 : Nat} {p1 : Int32} {p2 : Nat} (ht : τ.1 p0 = 3) (hs : st.length ≤ 4) : AW (d + 1) 35 17 [x0, x1] (.ref p2 :: .int p1 :: .ref p0 :: st) σ ρ g τ Q = AW d 34 0 [.ref p0, .int p1, .ref p2] [] σ ρ g τ (fun r9 σ ρ g τ => AW (d + 1) 35 20 [x0, x1] (r9.toList ++ st) σ ρ g τ Q) := aw_cv m35 d35_17 rfl m34 rfl rfl (by decide) en34 ok34 rfl ht hs
theorem d35_20 : decode cX3_worthOf 20 = .ok (.imul, 1) := by decide +kernel
theorem s35_20 {d : Nat} {st : List Value} {σ : am_I} {ρ : am_R} {g : am_J} {τ : am_T} {Q : am_Q} {x0 x1 : Value} {v w : Int32} : AW d 35 20 [x0, x1] (.int w :: .int v :: st) σ ρ g τ Q = AW d 35 21 [x0, x1] (.int (v * w) :: st) σ ρ g τ Q := aw_lc m35 d35_20 rfl rfl rfl
theorem d35_21 : decode cX3_worthOf 21 = .ok (.aload_n 1, 1) := by decide +kernel
theorem s35_21 {d : Nat} {st : List Value} {σ : am_I} {ρ : am_R} {g : am_J} {τ : am_T} {Q : am_Q} {x0 : Value} {v : Nat} : AW d 35 21 [x0, .ref v] (st) σ ρ g τ Q = AW d 35 22 [x0, .ref v] (.ref v :: st) σ ρ g τ Q := aw_lc m35 d35_21 rfl rfl rfl
theorem d35_22 : decode cX3_worthOf 22 = .ok (.getfield 157, 3) := by decide +kernel
theorem s35_22 {d : Nat} {st : List Value} {σ : am_I} {ρ : am_R} {g : am_J} {τ : am_T} {Q : am_Q} {x0 x1 : Value} {a : Nat} (ht : τ.1 a = 1) : AW d 35 22 [x0, x1] (.ref a :: st) σ ρ g τ Q = AW d 35 25 [x0, x1] (.int (σ a 4) :: st) σ ρ g τ Q := aw_gi m35 d35_22 rfl rfl rfl ht
theorem d35_25 : decode cX3_worthOf 25 = .ok (.idiv, 1) := by decide +kernel
theorem s35_25 {d : Nat} {st : List Value} {σ : am_I} {ρ : am_R} {g : am_J} {τ : am_T} {Q : am_Q} {x0 x1 : Value} {v w : Int32} (h0 : ¬ w = 0) : AW d 35 25 [x0, x1] (.int w :: .int v :: st) σ ρ g τ Q = AW d 35 26 [x0, x1] (.int (v / w) :: st) σ ρ g τ Q := aw_div m35 d35_25 h0 rfl
theorem d35_26 : decode cX3_worthOf 26 = .ok (.goto 4, 3) := by decide +kernel
theorem s35_26 {d : Nat} {st : List Value} {σ : am_I} {ρ : am_R} {g : am_J} {τ : am_T} {Q : am_Q} {x0 x1 : Value} : AW d 35 26 [x0, x1] (st) σ ρ g τ Q = AW d 35 30 [x0, x1] (st) σ ρ g τ Q := aw_lc m35 d35_26 rfl rfl rfl
theorem d35_29 : decode cX3_worthOf 29 = .ok (.iconst 0, 1) := by decide +kernel
theorem s35_29 {d : Nat} {st : List Value} {σ : am_I} {ρ : am_R} {g : am_J} {τ : am_T} {Q : am_Q} {x0 x1 : Value} : AW d 35 29 [x0, x1] (st) σ ρ g τ Q = AW d 35 30 [x0, x1] (.int 0 :: st) σ ρ g τ Q := aw_lc m35 d35_29 rfl rfl rfl
theorem d35_30 : decode cX3_worthOf 30 = .ok (.ireturn, 1) := by decide +kernel
theorem s35_30 {d : Nat} {σ : am_I} {ρ : am_R} {g : am_J} {τ : am_T} {Q : am_Q} {x0 x1 : Value} {v : Int32} : AW d 35 30 [x0, x1] ([.int v]) σ ρ g τ Q = Q (some (.int v)) σ ρ g τ := aw_ri m35 d35_30 rfl
theorem d36_0 : decode cX3_yearOfTenMiles 0 = .ok (.aload_n 0, 1) := by decide +kernel
theorem s36_0 {d : Nat} {st : List Value} {σ : am_I} {ρ : am_R} {g : am_J} {τ : am_T} {Q : am_Q} {x1 x2 x3 x4 x5 : Value} {v : Nat} : AW d 36 0 [.ref v, x1, x2, x3, x4, x5] (st) σ ρ g τ Q = AW d 36 1 [.ref v, x1, x2, x3, x4, x5] (.ref v :: st) σ ρ g τ Q := aw_lc m36 d36_0 rfl rfl rfl
theorem d36_1 : decode cX3_yearOfTenMiles 1 = .ok (.iload_n 1, 1) := by decide +kernel
theorem s36_1 {d : Nat} {st : List Value} {σ : am_I} {ρ : am_R} {g : am_J} {τ : am_T} {Q : am_Q} {x0 x2 x3 x4 x5 : Value} {v : Int32} : AW d 36 1 [x0, .int v, x2, x3, x4, x5] (st) σ ρ g τ Q = AW d 36 2 [x0, .int v, x2, x3, x4, x5] (.int v :: st) σ ρ g τ Q := aw_lc m36 d36_1 rfl rfl rfl
theorem d36_2 : decode cX3_yearOfTenMiles 2 = .ok (.invokevirtual 170, 3) := by decide +kernel
theorem s36_2 {d : Nat} {st : List Value} {σ : am_I} {ρ : am_R} {g : am_J} {τ : am_T} {Q : am_Q} {x0 x1 x2 x3 x4 x5 : Value} {p0 : Nat} {p1 : Int32} (ht : τ.1 p0 = 3) (hs : st.length ≤ 4) : AW (d + 1) 36 2 [x0, x1, x2, x3, x4, x5] (.int p1 :: .ref p0 :: st) σ ρ g τ Q = AW d 23 0 [.ref p0, .int p1] [] σ ρ g τ (fun r9 σ ρ g τ => AW (d + 1) 36 5 [x0, x1, x2, x3, x4, x5] (r9.toList ++ st) σ ρ g τ Q) := aw_cv m36 d36_2 rfl m23 rfl rfl (by decide) en23 ok23 rfl ht hs
theorem d36_5 : decode cX3_yearOfTenMiles 5 = .ok (.ifCond .ne 5, 3) := by decide +kernel
theorem s36_5 {d : Nat} {st : List Value} {σ : am_I} {ρ : am_R} {g : am_J} {τ : am_T} {Q : am_Q} {x0 x1 x2 x3 x4 x5 : Value} {v : Int32} : AW d 36 5 [x0, x1, x2, x3, x4, x5] (.int v :: st) σ ρ g τ Q = if ¬ v = 0 then AW d 36 10 [x0, x1, x2, x3, x4, x5] (st) σ ρ g τ Q else AW d 36 8 [x0, x1, x2, x3, x4, x5] (st) σ ρ g τ Q := aw_br m36 d36_5 rfl rfl rfl
theorem d36_8 : decode cX3_yearOfTenMiles 8 = .ok (.iconst 0, 1) := by decide +kernel
theorem s36_8 {d : Nat} {st : List Value} {σ : am_I} {ρ : am_R} {g : am_J} {τ : am_T} {Q : am_Q} {x0 x1 x2 x3 x4 x5 : Value} : AW d 36 8 [x0, x1, x2, x3, x4, x5] (st) σ ρ g τ Q = AW d 36 9 [x0, x1, x2, x3, x4, x5] (.int 0 :: st) σ ρ g τ Q := aw_lc m36 d36_8 rfl rfl rfl
theorem d36_9 : decode cX3_yearOfTenMiles 9 = .ok (.ireturn, 1) := by decide +kernel
theorem s36_9 {d : Nat} {σ : am_I} {ρ : am_R} {g : am_J} {τ : am_T} {Q : am_Q} {x0 x1 x2 x3 x4 x5 : Value} {v : Int32} : AW d 36 9 [x0, x1, x2, x3, x4, x5] ([.int v]) σ ρ g τ Q = Q (some (.int v)) σ ρ g τ := aw_ri m36 d36_9 rfl
theorem d36_10 : decode cX3_yearOfTenMiles 10 = .ok (.aload_n 0, 1) := by decide +kernel
theorem s36_10 {d : Nat} {st : List Value} {σ : am_I} {ρ : am_R} {g : am_J} {τ : am_T} {Q : am_Q} {x1 x2 x3 x4 x5 : Value} {v : Nat} : AW d 36 10 [.ref v, x1, x2, x3, x4, x5] (st) σ ρ g τ Q = AW d 36 11 [.ref v, x1, x2, x3, x4, x5] (.ref v :: st) σ ρ g τ Q := aw_lc m36 d36_10 rfl rfl rfl
theorem d36_11 : decode cX3_yearOfTenMiles 11 = .ok (.getfield 30, 3) := by decide +kernel
theorem s36_11 {d : Nat} {st : List Value} {σ : am_I} {ρ : am_R} {g : am_J} {τ : am_T} {Q : am_Q} {x0 x1 x2 x3 x4 x5 : Value} {a : Nat} (ht : τ.1 a = 3) : AW d 36 11 [x0, x1, x2, x3, x4, x5] (.ref a :: st) σ ρ g τ Q = AW d 36 14 [x0, x1, x2, x3, x4, x5] (va_rf (ρ a 5) :: st) σ ρ g τ Q := aw_gr m36 d36_11 rfl rfl rfl ht
theorem d36_14 : decode cX3_yearOfTenMiles 14 = .ok (.iload_n 1, 1) := by decide +kernel
theorem s36_14 {d : Nat} {st : List Value} {σ : am_I} {ρ : am_R} {g : am_J} {τ : am_T} {Q : am_Q} {x0 x2 x3 x4 x5 : Value} {v : Int32} : AW d 36 14 [x0, .int v, x2, x3, x4, x5] (st) σ ρ g τ Q = AW d 36 15 [x0, .int v, x2, x3, x4, x5] (.int v :: st) σ ρ g τ Q := aw_lc m36 d36_14 rfl rfl rfl
theorem d36_15 : decode cX3_yearOfTenMiles 15 = .ok (.aaload, 1) := by decide +kernel
theorem s36_15 {d : Nat} {st : List Value} {σ : am_I} {ρ : am_R} {g : am_J} {τ : am_T} {Q : am_Q} {x0 x1 x2 x3 x4 x5 : Value} {a : Nat} {j : Int32} (ht : 18 ≤ τ.1 a ∧ τ.1 a ≤ 22) (hj : am_inb j (τ.2.1 a) = true) : AW d 36 15 [x0, x1, x2, x3, x4, x5] (.int j :: .ref a :: st) σ ρ g τ Q = AW d 36 16 [x0, x1, x2, x3, x4, x5] (va_rf (ρ a j.toNatClampNeg) :: st) σ ρ g τ Q := aw_aal m36 d36_15 rfl ht hj
theorem d36_16 : decode cX3_yearOfTenMiles 16 = .ok (.getfield 117, 3) := by decide +kernel
theorem s36_16 {d : Nat} {st : List Value} {σ : am_I} {ρ : am_R} {g : am_J} {τ : am_T} {Q : am_Q} {x0 x1 x2 x3 x4 x5 : Value} {a : Nat} (ht : τ.1 a = 7) : AW d 36 16 [x0, x1, x2, x3, x4, x5] (.ref a :: st) σ ρ g τ Q = AW d 36 19 [x0, x1, x2, x3, x4, x5] (va_rf (ρ a 4) :: st) σ ρ g τ Q := aw_gr m36 d36_16 rfl rfl rfl ht
theorem d36_19 : decode cX3_yearOfTenMiles 19 = .ok (.astore_n 2, 1) := by decide +kernel
theorem s36_19 {d : Nat} {st : List Value} {σ : am_I} {ρ : am_R} {g : am_J} {τ : am_T} {Q : am_Q} {x0 x2 x3 x4 x5 : Value} {v : Nat} {u : Int32} : AW d 36 19 [x0, .int u, x2, x3, x4, x5] (.ref v :: st) σ ρ g τ Q = AW d 36 20 [x0, .int u, .ref v, x3, x4, x5] (st) σ ρ g τ Q := aw_lc m36 d36_19 rfl rfl rfl
theorem d36_20 : decode cX3_yearOfTenMiles 20 = .ok (.aload_n 2, 1) := by decide +kernel
theorem s36_20 {d : Nat} {st : List Value} {σ : am_I} {ρ : am_R} {g : am_J} {τ : am_T} {Q : am_Q} {x0 x1 x3 x4 x5 : Value} {v : Nat} : AW d 36 20 [x0, x1, .ref v, x3, x4, x5] (st) σ ρ g τ Q = AW d 36 21 [x0, x1, .ref v, x3, x4, x5] (.ref v :: st) σ ρ g τ Q := aw_lc m36 d36_20 rfl rfl rfl
theorem d36_21 : decode cX3_yearOfTenMiles 21 = .ok (.iconst 0, 1) := by decide +kernel
theorem s36_21 {d : Nat} {st : List Value} {σ : am_I} {ρ : am_R} {g : am_J} {τ : am_T} {Q : am_Q} {x0 x1 x2 x3 x4 x5 : Value} : AW d 36 21 [x0, x1, x2, x3, x4, x5] (st) σ ρ g τ Q = AW d 36 22 [x0, x1, x2, x3, x4, x5] (.int 0 :: st) σ ρ g τ Q := aw_lc m36 d36_21 rfl rfl rfl
theorem d36_22 : decode cX3_yearOfTenMiles 22 = .ok (.iaload, 1) := by decide +kernel
theorem s36_22 {d : Nat} {st : List Value} {σ : am_I} {ρ : am_R} {g : am_J} {τ : am_T} {Q : am_Q} {x0 x1 x2 x3 x4 x5 : Value} {a : Nat} {j : Int32} (ht : τ.1 a = 15) (hj : am_inb j (τ.2.1 a) = true) : AW d 36 22 [x0, x1, x2, x3, x4, x5] (.int j :: .ref a :: st) σ ρ g τ Q = AW d 36 23 [x0, x1, x2, x3, x4, x5] (.int (σ a j.toNatClampNeg) :: st) σ ρ g τ Q := aw_ial m36 d36_22 rfl ht hj
theorem d36_23 : decode cX3_yearOfTenMiles 23 = .ok (.aload_n 2, 1) := by decide +kernel
theorem s36_23 {d : Nat} {st : List Value} {σ : am_I} {ρ : am_R} {g : am_J} {τ : am_T} {Q : am_Q} {x0 x1 x3 x4 x5 : Value} {v : Nat} : AW d 36 23 [x0, x1, .ref v, x3, x4, x5] (st) σ ρ g τ Q = AW d 36 24 [x0, x1, .ref v, x3, x4, x5] (.ref v :: st) σ ρ g τ Q := aw_lc m36 d36_23 rfl rfl rfl
theorem d36_24 : decode cX3_yearOfTenMiles 24 = .ok (.iconst 1, 1) := by decide +kernel
theorem s36_24 {d : Nat} {st : List Value} {σ : am_I} {ρ : am_R} {g : am_J} {τ : am_T} {Q : am_Q} {x0 x1 x2 x3 x4 x5 : Value} : AW d 36 24 [x0, x1, x2, x3, x4, x5] (st) σ ρ g τ Q = AW d 36 25 [x0, x1, x2, x3, x4, x5] (.int 1 :: st) σ ρ g τ Q := aw_lc m36 d36_24 rfl rfl rfl
theorem d36_25 : decode cX3_yearOfTenMiles 25 = .ok (.iaload, 1) := by decide +kernel
theorem s36_25 {d : Nat} {st : List Value} {σ : am_I} {ρ : am_R} {g : am_J} {τ : am_T} {Q : am_Q} {x0 x1 x2 x3 x4 x5 : Value} {a : Nat} {j : Int32} (ht : τ.1 a = 15) (hj : am_inb j (τ.2.1 a) = true) : AW d 36 25 [x0, x1, x2, x3, x4, x5] (.int j :: .ref a :: st) σ ρ g τ Q = AW d 36 26 [x0, x1, x2, x3, x4, x5] (.int (σ a j.toNatClampNeg) :: st) σ ρ g τ Q := aw_ial m36 d36_25 rfl ht hj
theorem d36_26 : decode cX3_yearOfTenMiles 26 = .ok (.iadd, 1) := by decide +kernel
theorem s36_26 {d : Nat} {st : List Value} {σ : am_I} {ρ : am_R} {g : am_J} {τ : am_T} {Q : am_Q} {x0 x1 x2 x3 x4 x5 : Value} {v w : Int32} : AW d 36 26 [x0, x1, x2, x3, x4, x5] (.int w :: .int v :: st) σ ρ g τ Q = AW d 36 27 [x0, x1, x2, x3, x4, x5] (.int (v + w) :: st) σ ρ g τ Q := aw_lc m36 d36_26 rfl rfl rfl
theorem d36_27 : decode cX3_yearOfTenMiles 27 = .ok (.aload_n 2, 1) := by decide +kernel
theorem s36_27 {d : Nat} {st : List Value} {σ : am_I} {ρ : am_R} {g : am_J} {τ : am_T} {Q : am_Q} {x0 x1 x3 x4 x5 : Value} {v : Nat} : AW d 36 27 [x0, x1, .ref v, x3, x4, x5] (st) σ ρ g τ Q = AW d 36 28 [x0, x1, .ref v, x3, x4, x5] (.ref v :: st) σ ρ g τ Q := aw_lc m36 d36_27 rfl rfl rfl
theorem d36_28 : decode cX3_yearOfTenMiles 28 = .ok (.iconst 2, 1) := by decide +kernel
theorem s36_28 {d : Nat} {st : List Value} {σ : am_I} {ρ : am_R} {g : am_J} {τ : am_T} {Q : am_Q} {x0 x1 x2 x3 x4 x5 : Value} : AW d 36 28 [x0, x1, x2, x3, x4, x5] (st) σ ρ g τ Q = AW d 36 29 [x0, x1, x2, x3, x4, x5] (.int 2 :: st) σ ρ g τ Q := aw_lc m36 d36_28 rfl rfl rfl
theorem d36_29 : decode cX3_yearOfTenMiles 29 = .ok (.iaload, 1) := by decide +kernel
theorem s36_29 {d : Nat} {st : List Value} {σ : am_I} {ρ : am_R} {g : am_J} {τ : am_T} {Q : am_Q} {x0 x1 x2 x3 x4 x5 : Value} {a : Nat} {j : Int32} (ht : τ.1 a = 15) (hj : am_inb j (τ.2.1 a) = true) : AW d 36 29 [x0, x1, x2, x3, x4, x5] (.int j :: .ref a :: st) σ ρ g τ Q = AW d 36 30 [x0, x1, x2, x3, x4, x5] (.int (σ a j.toNatClampNeg) :: st) σ ρ g τ Q := aw_ial m36 d36_29 rfl ht hj
theorem d36_30 : decode cX3_yearOfTenMiles 30 = .ok (.iadd, 1) := by decide +kernel
theorem s36_30 {d : Nat} {st : List Value} {σ : am_I} {ρ : am_R} {g : am_J} {τ : am_T} {Q : am_Q} {x0 x1 x2 x3 x4 x5 : Value} {v w : Int32} : AW d 36 30 [x0, x1, x2, x3, x4, x5] (.int w :: .int v :: st) σ ρ g τ Q = AW d 36 31 [x0, x1, x2, x3, x4, x5] (.int (v + w) :: st) σ ρ g τ Q := aw_lc m36 d36_30 rfl rfl rfl
theorem d36_31 : decode cX3_yearOfTenMiles 31 = .ok (.istore_n 3, 1) := by decide +kernel
theorem s36_31r {d : Nat} {st : List Value} {σ : am_I} {ρ : am_R} {g : am_J} {τ : am_T} {Q : am_Q} {x0 x1 x3 x4 x5 : Value} {v : Int32} {u : Nat} : AW d 36 31 [x0, x1, .ref u, x3, x4, x5] (.int v :: st) σ ρ g τ Q = AW d 36 32 [x0, x1, .ref u, .int v, x4, x5] (st) σ ρ g τ Q := aw_lc m36 d36_31 rfl rfl rfl
theorem d36_32 : decode cX3_yearOfTenMiles 32 = .ok (.iconst 0, 1) := by decide +kernel
theorem s36_32 {d : Nat} {st : List Value} {σ : am_I} {ρ : am_R} {g : am_J} {τ : am_T} {Q : am_Q} {x0 x1 x2 x3 x4 x5 : Value} : AW d 36 32 [x0, x1, x2, x3, x4, x5] (st) σ ρ g τ Q = AW d 36 33 [x0, x1, x2, x3, x4, x5] (.int 0 :: st) σ ρ g τ Q := aw_lc m36 d36_32 rfl rfl rfl
theorem d36_33 : decode cX3_yearOfTenMiles 33 = .ok (.istore 4, 2) := by decide +kernel
theorem s36_33 {d : Nat} {st : List Value} {σ : am_I} {ρ : am_R} {g : am_J} {τ : am_T} {Q : am_Q} {x0 x1 x2 x4 x5 : Value} {v : Int32} {u : Int32} : AW d 36 33 [x0, x1, x2, .int u, x4, x5] (.int v :: st) σ ρ g τ Q = AW d 36 35 [x0, x1, x2, .int u, .int v, x5] (st) σ ρ g τ Q := aw_lc m36 d36_33 rfl rfl rfl
theorem d36_35 : decode cX3_yearOfTenMiles 35 = .ok (.iconst 0, 1) := by decide +kernel
theorem s36_35 {d : Nat} {st : List Value} {σ : am_I} {ρ : am_R} {g : am_J} {τ : am_T} {Q : am_Q} {x0 x1 x2 x3 x4 x5 : Value} : AW d 36 35 [x0, x1, x2, x3, x4, x5] (st) σ ρ g τ Q = AW d 36 36 [x0, x1, x2, x3, x4, x5] (.int 0 :: st) σ ρ g τ Q := aw_lc m36 d36_35 rfl rfl rfl
theorem d36_36 : decode cX3_yearOfTenMiles 36 = .ok (.istore 5, 2) := by decide +kernel
theorem s36_36 {d : Nat} {st : List Value} {σ : am_I} {ρ : am_R} {g : am_J} {τ : am_T} {Q : am_Q} {x0 x1 x2 x3 x5 : Value} {v : Int32} {u : Int32} : AW d 36 36 [x0, x1, x2, x3, .int u, x5] (.int v :: st) σ ρ g τ Q = AW d 36 38 [x0, x1, x2, x3, .int u, .int v] (st) σ ρ g τ Q := aw_lc m36 d36_36 rfl rfl rfl
theorem d36_38 : decode cX3_yearOfTenMiles 38 = .ok (.iload 5, 2) := by decide +kernel
theorem s36_38 {d : Nat} {st : List Value} {σ : am_I} {ρ : am_R} {g : am_J} {τ : am_T} {Q : am_Q} {x0 x1 x2 x3 x4 : Value} {v : Int32} : AW d 36 38 [x0, x1, x2, x3, x4, .int v] (st) σ ρ g τ Q = AW d 36 40 [x0, x1, x2, x3, x4, .int v] (.int v :: st) σ ρ g τ Q := aw_lc m36 d36_38 rfl rfl rfl
theorem d36_40 : decode cX3_yearOfTenMiles 40 = .ok (.bipush 12, 2) := by decide +kernel
theorem s36_40 {d : Nat} {st : List Value} {σ : am_I} {ρ : am_R} {g : am_J} {τ : am_T} {Q : am_Q} {x0 x1 x2 x3 x4 x5 : Value} : AW d 36 40 [x0, x1, x2, x3, x4, x5] (st) σ ρ g τ Q = AW d 36 42 [x0, x1, x2, x3, x4, x5] (.int 12 :: st) σ ρ g τ Q := aw_lc m36 d36_40 rfl rfl rfl
theorem d36_42 : decode cX3_yearOfTenMiles 42 = .ok (.if_icmp .ge 26, 3) := by decide +kernel
theorem s36_42 {d : Nat} {st : List Value} {σ : am_I} {ρ : am_R} {g : am_J} {τ : am_T} {Q : am_Q} {x0 x1 x2 x3 x4 x5 : Value} {v w : Int32} : AW d 36 42 [x0, x1, x2, x3, x4, x5] (.int w :: .int v :: st) σ ρ g τ Q = if w ≤ v then AW d 36 68 [x0, x1, x2, x3, x4, x5] (st) σ ρ g τ Q else AW d 36 45 [x0, x1, x2, x3, x4, x5] (st) σ ρ g τ Q := aw_br m36 d36_42 rfl rfl rfl
theorem d36_45 : decode cX3_yearOfTenMiles 45 = .ok (.iload 4, 2) := by decide +kernel
theorem s36_45 {d : Nat} {st : List Value} {σ : am_I} {ρ : am_R} {g : am_J} {τ : am_T} {Q : am_Q} {x0 x1 x2 x3 x5 : Value} {v : Int32} : AW d 36 45 [x0, x1, x2, x3, .int v, x5] (st) σ ρ g τ Q = AW d 36 47 [x0, x1, x2, x3, .int v, x5] (.int v :: st) σ ρ g τ Q := aw_lc m36 d36_45 rfl rfl rfl
theorem d36_47 : decode cX3_yearOfTenMiles 47 = .ok (.iload_n 3, 1) := by decide +kernel
theorem s36_47 {d : Nat} {st : List Value} {σ : am_I} {ρ : am_R} {g : am_J} {τ : am_T} {Q : am_Q} {x0 x1 x2 x4 x5 : Value} {v : Int32} : AW d 36 47 [x0, x1, x2, .int v, x4, x5] (st) σ ρ g τ Q = AW d 36 48 [x0, x1, x2, .int v, x4, x5] (.int v :: st) σ ρ g τ Q := aw_lc m36 d36_47 rfl rfl rfl
theorem d36_48 : decode cX3_yearOfTenMiles 48 = .ok (.aload_n 0, 1) := by decide +kernel
theorem s36_48 {d : Nat} {st : List Value} {σ : am_I} {ρ : am_R} {g : am_J} {τ : am_T} {Q : am_Q} {x1 x2 x3 x4 x5 : Value} {v : Nat} : AW d 36 48 [.ref v, x1, x2, x3, x4, x5] (st) σ ρ g τ Q = AW d 36 49 [.ref v, x1, x2, x3, x4, x5] (.ref v :: st) σ ρ g τ Q := aw_lc m36 d36_48 rfl rfl rfl
theorem d36_49 : decode cX3_yearOfTenMiles 49 = .ok (.getfield 22, 3) := by decide +kernel
theorem s36_49 {d : Nat} {st : List Value} {σ : am_I} {ρ : am_R} {g : am_J} {τ : am_T} {Q : am_Q} {x0 x1 x2 x3 x4 x5 : Value} {a : Nat} (ht : τ.1 a = 3) : AW d 36 49 [x0, x1, x2, x3, x4, x5] (.ref a :: st) σ ρ g τ Q = AW d 36 52 [x0, x1, x2, x3, x4, x5] (va_rf (ρ a 3) :: st) σ ρ g τ Q := aw_gr m36 d36_49 rfl rfl rfl ht
theorem d36_52 : decode cX3_yearOfTenMiles 52 = .ok (.iload 5, 2) := by decide +kernel
theorem s36_52 {d : Nat} {st : List Value} {σ : am_I} {ρ : am_R} {g : am_J} {τ : am_T} {Q : am_Q} {x0 x1 x2 x3 x4 : Value} {v : Int32} : AW d 36 52 [x0, x1, x2, x3, x4, .int v] (st) σ ρ g τ Q = AW d 36 54 [x0, x1, x2, x3, x4, .int v] (.int v :: st) σ ρ g τ Q := aw_lc m36 d36_52 rfl rfl rfl
theorem d36_54 : decode cX3_yearOfTenMiles 54 = .ok (.iaload, 1) := by decide +kernel
theorem s36_54 {d : Nat} {st : List Value} {σ : am_I} {ρ : am_R} {g : am_J} {τ : am_T} {Q : am_Q} {x0 x1 x2 x3 x4 x5 : Value} {a : Nat} {j : Int32} (ht : τ.1 a = 15) (hj : am_inb j (τ.2.1 a) = true) : AW d 36 54 [x0, x1, x2, x3, x4, x5] (.int j :: .ref a :: st) σ ρ g τ Q = AW d 36 55 [x0, x1, x2, x3, x4, x5] (.int (σ a j.toNatClampNeg) :: st) σ ρ g τ Q := aw_ial m36 d36_54 rfl ht hj
theorem d36_55 : decode cX3_yearOfTenMiles 55 = .ok (.imul, 1) := by decide +kernel
theorem s36_55 {d : Nat} {st : List Value} {σ : am_I} {ρ : am_R} {g : am_J} {τ : am_T} {Q : am_Q} {x0 x1 x2 x3 x4 x5 : Value} {v w : Int32} : AW d 36 55 [x0, x1, x2, x3, x4, x5] (.int w :: .int v :: st) σ ρ g τ Q = AW d 36 56 [x0, x1, x2, x3, x4, x5] (.int (v * w) :: st) σ ρ g τ Q := aw_lc m36 d36_55 rfl rfl rfl
theorem d36_56 : decode cX3_yearOfTenMiles 56 = .ok (.bipush 100, 2) := by decide +kernel
theorem s36_56 {d : Nat} {st : List Value} {σ : am_I} {ρ : am_R} {g : am_J} {τ : am_T} {Q : am_Q} {x0 x1 x2 x3 x4 x5 : Value} : AW d 36 56 [x0, x1, x2, x3, x4, x5] (st) σ ρ g τ Q = AW d 36 58 [x0, x1, x2, x3, x4, x5] (.int 100 :: st) σ ρ g τ Q := aw_lc m36 d36_56 rfl rfl rfl
theorem d36_58 : decode cX3_yearOfTenMiles 58 = .ok (.idiv, 1) := by decide +kernel
theorem s36_58 {d : Nat} {st : List Value} {σ : am_I} {ρ : am_R} {g : am_J} {τ : am_T} {Q : am_Q} {x0 x1 x2 x3 x4 x5 : Value} {v w : Int32} (h0 : ¬ w = 0) : AW d 36 58 [x0, x1, x2, x3, x4, x5] (.int w :: .int v :: st) σ ρ g τ Q = AW d 36 59 [x0, x1, x2, x3, x4, x5] (.int (v / w) :: st) σ ρ g τ Q := aw_div m36 d36_58 h0 rfl
theorem d36_59 : decode cX3_yearOfTenMiles 59 = .ok (.iadd, 1) := by decide +kernel
theorem s36_59 {d : Nat} {st : List Value} {σ : am_I} {ρ : am_R} {g : am_J} {τ : am_T} {Q : am_Q} {x0 x1 x2 x3 x4 x5 : Value} {v w : Int32} : AW d 36 59 [x0, x1, x2, x3, x4, x5] (.int w :: .int v :: st) σ ρ g τ Q = AW d 36 60 [x0, x1, x2, x3, x4, x5] (.int (v + w) :: st) σ ρ g τ Q := aw_lc m36 d36_59 rfl rfl rfl
theorem d36_60 : decode cX3_yearOfTenMiles 60 = .ok (.istore 4, 2) := by decide +kernel
theorem s36_60 {d : Nat} {st : List Value} {σ : am_I} {ρ : am_R} {g : am_J} {τ : am_T} {Q : am_Q} {x0 x1 x2 x4 x5 : Value} {v : Int32} {u : Int32} : AW d 36 60 [x0, x1, x2, .int u, x4, x5] (.int v :: st) σ ρ g τ Q = AW d 36 62 [x0, x1, x2, .int u, .int v, x5] (st) σ ρ g τ Q := aw_lc m36 d36_60 rfl rfl rfl
theorem d36_62 : decode cX3_yearOfTenMiles 62 = .ok (.iinc 5 1, 3) := by decide +kernel
theorem s36_62 {d : Nat} {st : List Value} {σ : am_I} {ρ : am_R} {g : am_J} {τ : am_T} {Q : am_Q} {x0 x1 x2 x3 : Value} {v : Int32} {u : Int32} : AW d 36 62 [x0, x1, x2, x3, .int u, .int v] (st) σ ρ g τ Q = AW d 36 65 [x0, x1, x2, x3, .int u, .int (v + 1)] (st) σ ρ g τ Q := aw_lc m36 d36_62 rfl rfl rfl
theorem d36_65 : decode cX3_yearOfTenMiles 65 = .ok (.goto (-27), 3) := by decide +kernel
theorem s36_65 {d : Nat} {st : List Value} {σ : am_I} {ρ : am_R} {g : am_J} {τ : am_T} {Q : am_Q} {x0 x1 x2 x3 x4 x5 : Value} : AW d 36 65 [x0, x1, x2, x3, x4, x5] (st) σ ρ g τ Q = AW d 36 38 [x0, x1, x2, x3, x4, x5] (st) σ ρ g τ Q := aw_lc m36 d36_65 rfl rfl rfl
theorem d36_68 : decode cX3_yearOfTenMiles 68 = .ok (.iload 4, 2) := by decide +kernel
theorem s36_68 {d : Nat} {st : List Value} {σ : am_I} {ρ : am_R} {g : am_J} {τ : am_T} {Q : am_Q} {x0 x1 x2 x3 x5 : Value} {v : Int32} : AW d 36 68 [x0, x1, x2, x3, .int v, x5] (st) σ ρ g τ Q = AW d 36 70 [x0, x1, x2, x3, .int v, x5] (.int v :: st) σ ρ g τ Q := aw_lc m36 d36_68 rfl rfl rfl
theorem d36_70 : decode cX3_yearOfTenMiles 70 = .ok (.ireturn, 1) := by decide +kernel
theorem s36_70 {d : Nat} {σ : am_I} {ρ : am_R} {g : am_J} {τ : am_T} {Q : am_Q} {x0 x1 x2 x3 x4 x5 : Value} {v : Int32} : AW d 36 70 [x0, x1, x2, x3, x4, x5] ([.int v]) σ ρ g τ Q = Q (some (.int v)) σ ρ g τ := aw_ri m36 d36_70 rfl
theorem d37_0 : decode cX3_takenUpTo 0 = .ok (.iconst 0, 1) := by decide +kernel
theorem s37_0 {d : Nat} {st : List Value} {σ : am_I} {ρ : am_R} {g : am_J} {τ : am_T} {Q : am_Q} {x0 x1 x2 x3 : Value} : AW d 37 0 [x0, x1, x2, x3] (st) σ ρ g τ Q = AW d 37 1 [x0, x1, x2, x3] (.int 0 :: st) σ ρ g τ Q := aw_lc m37 d37_0 rfl rfl rfl
theorem d37_1 : decode cX3_takenUpTo 1 = .ok (.istore_n 2, 1) := by decide +kernel
theorem s37_1 {d : Nat} {st : List Value} {σ : am_I} {ρ : am_R} {g : am_J} {τ : am_T} {Q : am_Q} {x0 x2 x3 : Value} {v : Int32} {u : Int32} : AW d 37 1 [x0, .int u, x2, x3] (.int v :: st) σ ρ g τ Q = AW d 37 2 [x0, .int u, .int v, x3] (st) σ ρ g τ Q := aw_lc m37 d37_1 rfl rfl rfl
theorem d37_2 : decode cX3_takenUpTo 2 = .ok (.iconst 0, 1) := by decide +kernel
theorem s37_2 {d : Nat} {st : List Value} {σ : am_I} {ρ : am_R} {g : am_J} {τ : am_T} {Q : am_Q} {x0 x1 x2 x3 : Value} : AW d 37 2 [x0, x1, x2, x3] (st) σ ρ g τ Q = AW d 37 3 [x0, x1, x2, x3] (.int 0 :: st) σ ρ g τ Q := aw_lc m37 d37_2 rfl rfl rfl
theorem d37_3 : decode cX3_takenUpTo 3 = .ok (.istore_n 3, 1) := by decide +kernel
theorem s37_3 {d : Nat} {st : List Value} {σ : am_I} {ρ : am_R} {g : am_J} {τ : am_T} {Q : am_Q} {x0 x1 x3 : Value} {v : Int32} {u : Int32} : AW d 37 3 [x0, x1, .int u, x3] (.int v :: st) σ ρ g τ Q = AW d 37 4 [x0, x1, .int u, .int v] (st) σ ρ g τ Q := aw_lc m37 d37_3 rfl rfl rfl
theorem d37_4 : decode cX3_takenUpTo 4 = .ok (.iload_n 3, 1) := by decide +kernel
theorem s37_4 {d : Nat} {st : List Value} {σ : am_I} {ρ : am_R} {g : am_J} {τ : am_T} {Q : am_Q} {x0 x1 x2 : Value} {v : Int32} : AW d 37 4 [x0, x1, x2, .int v] (st) σ ρ g τ Q = AW d 37 5 [x0, x1, x2, .int v] (.int v :: st) σ ρ g τ Q := aw_lc m37 d37_4 rfl rfl rfl
theorem d37_5 : decode cX3_takenUpTo 5 = .ok (.iload_n 1, 1) := by decide +kernel
theorem s37_5 {d : Nat} {st : List Value} {σ : am_I} {ρ : am_R} {g : am_J} {τ : am_T} {Q : am_Q} {x0 x2 x3 : Value} {v : Int32} : AW d 37 5 [x0, .int v, x2, x3] (st) σ ρ g τ Q = AW d 37 6 [x0, .int v, x2, x3] (.int v :: st) σ ρ g τ Q := aw_lc m37 d37_5 rfl rfl rfl
theorem d37_6 : decode cX3_takenUpTo 6 = .ok (.if_icmp .gt 63, 3) := by decide +kernel
theorem s37_6 {d : Nat} {st : List Value} {σ : am_I} {ρ : am_R} {g : am_J} {τ : am_T} {Q : am_Q} {x0 x1 x2 x3 : Value} {v w : Int32} : AW d 37 6 [x0, x1, x2, x3] (.int w :: .int v :: st) σ ρ g τ Q = if w < v then AW d 37 69 [x0, x1, x2, x3] (st) σ ρ g τ Q else AW d 37 9 [x0, x1, x2, x3] (st) σ ρ g τ Q := aw_br m37 d37_6 rfl rfl rfl
theorem d37_9 : decode cX3_takenUpTo 9 = .ok (.aload_n 0, 1) := by decide +kernel
theorem s37_9 {d : Nat} {st : List Value} {σ : am_I} {ρ : am_R} {g : am_J} {τ : am_T} {Q : am_Q} {x1 x2 x3 : Value} {v : Nat} : AW d 37 9 [.ref v, x1, x2, x3] (st) σ ρ g τ Q = AW d 37 10 [.ref v, x1, x2, x3] (.ref v :: st) σ ρ g τ Q := aw_lc m37 d37_9 rfl rfl rfl
theorem d37_10 : decode cX3_takenUpTo 10 = .ok (.getfield 76, 3) := by decide +kernel
theorem s37_10 {d : Nat} {st : List Value} {σ : am_I} {ρ : am_R} {g : am_J} {τ : am_T} {Q : am_Q} {x0 x1 x2 x3 : Value} {a : Nat} (ht : τ.1 a = 3) : AW d 37 10 [x0, x1, x2, x3] (.ref a :: st) σ ρ g τ Q = AW d 37 13 [x0, x1, x2, x3] (va_rf (ρ a 14) :: st) σ ρ g τ Q := aw_gr m37 d37_10 rfl rfl rfl ht
theorem d37_13 : decode cX3_takenUpTo 13 = .ok (.iload_n 3, 1) := by decide +kernel
theorem s37_13 {d : Nat} {st : List Value} {σ : am_I} {ρ : am_R} {g : am_J} {τ : am_T} {Q : am_Q} {x0 x1 x2 : Value} {v : Int32} : AW d 37 13 [x0, x1, x2, .int v] (st) σ ρ g τ Q = AW d 37 14 [x0, x1, x2, .int v] (.int v :: st) σ ρ g τ Q := aw_lc m37 d37_13 rfl rfl rfl
theorem d37_14 : decode cX3_takenUpTo 14 = .ok (.iconst 0, 1) := by decide +kernel
theorem s37_14 {d : Nat} {st : List Value} {σ : am_I} {ρ : am_R} {g : am_J} {τ : am_T} {Q : am_Q} {x0 x1 x2 x3 : Value} : AW d 37 14 [x0, x1, x2, x3] (st) σ ρ g τ Q = AW d 37 15 [x0, x1, x2, x3] (.int 0 :: st) σ ρ g τ Q := aw_lc m37 d37_14 rfl rfl rfl
theorem d37_15 : decode cX3_takenUpTo 15 = .ok (.invokevirtual 174, 3) := by decide +kernel
theorem s37_15 {d : Nat} {st : List Value} {σ : am_I} {ρ : am_R} {g : am_J} {τ : am_T} {Q : am_Q} {x0 x1 x2 x3 : Value} {p0 : Nat} {p1 : Int32} {p2 : Int32} (ht : τ.1 p0 = 4) (hs : st.length ≤ 4) : AW (d + 1) 37 15 [x0, x1, x2, x3] (.int p2 :: .int p1 :: .ref p0 :: st) σ ρ g τ Q = AW d 46 0 [.ref p0, .int p1, .int p2] [] σ ρ g τ (fun r9 σ ρ g τ => AW (d + 1) 37 18 [x0, x1, x2, x3] (r9.toList ++ st) σ ρ g τ Q) := aw_cv m37 d37_15 rfl m46 rfl rfl (by decide) en46 ok46 rfl ht hs
theorem d37_18 : decode cX3_takenUpTo 18 = .ok (.aload_n 0, 1) := by decide +kernel
theorem s37_18 {d : Nat} {st : List Value} {σ : am_I} {ρ : am_R} {g : am_J} {τ : am_T} {Q : am_Q} {x1 x2 x3 : Value} {v : Nat} : AW d 37 18 [.ref v, x1, x2, x3] (st) σ ρ g τ Q = AW d 37 19 [.ref v, x1, x2, x3] (.ref v :: st) σ ρ g τ Q := aw_lc m37 d37_18 rfl rfl rfl
theorem d37_19 : decode cX3_takenUpTo 19 = .ok (.getfield 76, 3) := by decide +kernel
theorem s37_19 {d : Nat} {st : List Value} {σ : am_I} {ρ : am_R} {g : am_J} {τ : am_T} {Q : am_Q} {x0 x1 x2 x3 : Value} {a : Nat} (ht : τ.1 a = 3) : AW d 37 19 [x0, x1, x2, x3] (.ref a :: st) σ ρ g τ Q = AW d 37 22 [x0, x1, x2, x3] (va_rf (ρ a 14) :: st) σ ρ g τ Q := aw_gr m37 d37_19 rfl rfl rfl ht
theorem d37_22 : decode cX3_takenUpTo 22 = .ok (.iload_n 1, 1) := by decide +kernel
theorem s37_22 {d : Nat} {st : List Value} {σ : am_I} {ρ : am_R} {g : am_J} {τ : am_T} {Q : am_Q} {x0 x2 x3 : Value} {v : Int32} : AW d 37 22 [x0, .int v, x2, x3] (st) σ ρ g τ Q = AW d 37 23 [x0, .int v, x2, x3] (.int v :: st) σ ρ g τ Q := aw_lc m37 d37_22 rfl rfl rfl
theorem d37_23 : decode cX3_takenUpTo 23 = .ok (.iconst 0, 1) := by decide +kernel
theorem s37_23 {d : Nat} {st : List Value} {σ : am_I} {ρ : am_R} {g : am_J} {τ : am_T} {Q : am_Q} {x0 x1 x2 x3 : Value} : AW d 37 23 [x0, x1, x2, x3] (st) σ ρ g τ Q = AW d 37 24 [x0, x1, x2, x3] (.int 0 :: st) σ ρ g τ Q := aw_lc m37 d37_23 rfl rfl rfl
theorem d37_24 : decode cX3_takenUpTo 24 = .ok (.invokevirtual 174, 3) := by decide +kernel
theorem s37_24 {d : Nat} {st : List Value} {σ : am_I} {ρ : am_R} {g : am_J} {τ : am_T} {Q : am_Q} {x0 x1 x2 x3 : Value} {p0 : Nat} {p1 : Int32} {p2 : Int32} (ht : τ.1 p0 = 4) (hs : st.length ≤ 4) : AW (d + 1) 37 24 [x0, x1, x2, x3] (.int p2 :: .int p1 :: .ref p0 :: st) σ ρ g τ Q = AW d 46 0 [.ref p0, .int p1, .int p2] [] σ ρ g τ (fun r9 σ ρ g τ => AW (d + 1) 37 27 [x0, x1, x2, x3] (r9.toList ++ st) σ ρ g τ Q) := aw_cv m37 d37_24 rfl m46 rfl rfl (by decide) en46 ok46 rfl ht hs
theorem d37_27 : decode cX3_takenUpTo 27 = .ok (.if_icmp .ne 36, 3) := by decide +kernel
theorem s37_27 {d : Nat} {st : List Value} {σ : am_I} {ρ : am_R} {g : am_J} {τ : am_T} {Q : am_Q} {x0 x1 x2 x3 : Value} {v w : Int32} : AW d 37 27 [x0, x1, x2, x3] (.int w :: .int v :: st) σ ρ g τ Q = if ¬ v = w then AW d 37 63 [x0, x1, x2, x3] (st) σ ρ g τ Q else AW d 37 30 [x0, x1, x2, x3] (st) σ ρ g τ Q := aw_br m37 d37_27 rfl rfl rfl
theorem d37_30 : decode cX3_takenUpTo 30 = .ok (.aload_n 0, 1) := by decide +kernel
theorem s37_30 {d : Nat} {st : List Value} {σ : am_I} {ρ : am_R} {g : am_J} {τ : am_T} {Q : am_Q} {x1 x2 x3 : Value} {v : Nat} : AW d 37 30 [.ref v, x1, x2, x3] (st) σ ρ g τ Q = AW d 37 31 [.ref v, x1, x2, x3] (.ref v :: st) σ ρ g τ Q := aw_lc m37 d37_30 rfl rfl rfl
theorem d37_31 : decode cX3_takenUpTo 31 = .ok (.getfield 76, 3) := by decide +kernel
theorem s37_31 {d : Nat} {st : List Value} {σ : am_I} {ρ : am_R} {g : am_J} {τ : am_T} {Q : am_Q} {x0 x1 x2 x3 : Value} {a : Nat} (ht : τ.1 a = 3) : AW d 37 31 [x0, x1, x2, x3] (.ref a :: st) σ ρ g τ Q = AW d 37 34 [x0, x1, x2, x3] (va_rf (ρ a 14) :: st) σ ρ g τ Q := aw_gr m37 d37_31 rfl rfl rfl ht
theorem d37_34 : decode cX3_takenUpTo 34 = .ok (.iload_n 3, 1) := by decide +kernel
theorem s37_34 {d : Nat} {st : List Value} {σ : am_I} {ρ : am_R} {g : am_J} {τ : am_T} {Q : am_Q} {x0 x1 x2 : Value} {v : Int32} : AW d 37 34 [x0, x1, x2, .int v] (st) σ ρ g τ Q = AW d 37 35 [x0, x1, x2, .int v] (.int v :: st) σ ρ g τ Q := aw_lc m37 d37_34 rfl rfl rfl
theorem d37_35 : decode cX3_takenUpTo 35 = .ok (.iconst 2, 1) := by decide +kernel
theorem s37_35 {d : Nat} {st : List Value} {σ : am_I} {ρ : am_R} {g : am_J} {τ : am_T} {Q : am_Q} {x0 x1 x2 x3 : Value} : AW d 37 35 [x0, x1, x2, x3] (st) σ ρ g τ Q = AW d 37 36 [x0, x1, x2, x3] (.int 2 :: st) σ ρ g τ Q := aw_lc m37 d37_35 rfl rfl rfl
theorem d37_36 : decode cX3_takenUpTo 36 = .ok (.invokevirtual 174, 3) := by decide +kernel
theorem s37_36 {d : Nat} {st : List Value} {σ : am_I} {ρ : am_R} {g : am_J} {τ : am_T} {Q : am_Q} {x0 x1 x2 x3 : Value} {p0 : Nat} {p1 : Int32} {p2 : Int32} (ht : τ.1 p0 = 4) (hs : st.length ≤ 4) : AW (d + 1) 37 36 [x0, x1, x2, x3] (.int p2 :: .int p1 :: .ref p0 :: st) σ ρ g τ Q = AW d 46 0 [.ref p0, .int p1, .int p2] [] σ ρ g τ (fun r9 σ ρ g τ => AW (d + 1) 37 39 [x0, x1, x2, x3] (r9.toList ++ st) σ ρ g τ Q) := aw_cv m37 d37_36 rfl m46 rfl rfl (by decide) en46 ok46 rfl ht hs
theorem d37_39 : decode cX3_takenUpTo 39 = .ok (.aload_n 0, 1) := by decide +kernel
theorem s37_39 {d : Nat} {st : List Value} {σ : am_I} {ρ : am_R} {g : am_J} {τ : am_T} {Q : am_Q} {x1 x2 x3 : Value} {v : Nat} : AW d 37 39 [.ref v, x1, x2, x3] (st) σ ρ g τ Q = AW d 37 40 [.ref v, x1, x2, x3] (.ref v :: st) σ ρ g τ Q := aw_lc m37 d37_39 rfl rfl rfl
theorem d37_40 : decode cX3_takenUpTo 40 = .ok (.getfield 76, 3) := by decide +kernel
theorem s37_40 {d : Nat} {st : List Value} {σ : am_I} {ρ : am_R} {g : am_J} {τ : am_T} {Q : am_Q} {x0 x1 x2 x3 : Value} {a : Nat} (ht : τ.1 a = 3) : AW d 37 40 [x0, x1, x2, x3] (.ref a :: st) σ ρ g τ Q = AW d 37 43 [x0, x1, x2, x3] (va_rf (ρ a 14) :: st) σ ρ g τ Q := aw_gr m37 d37_40 rfl rfl rfl ht
theorem d37_43 : decode cX3_takenUpTo 43 = .ok (.iload_n 1, 1) := by decide +kernel
theorem s37_43 {d : Nat} {st : List Value} {σ : am_I} {ρ : am_R} {g : am_J} {τ : am_T} {Q : am_Q} {x0 x2 x3 : Value} {v : Int32} : AW d 37 43 [x0, .int v, x2, x3] (st) σ ρ g τ Q = AW d 37 44 [x0, .int v, x2, x3] (.int v :: st) σ ρ g τ Q := aw_lc m37 d37_43 rfl rfl rfl
theorem d37_44 : decode cX3_takenUpTo 44 = .ok (.iconst 2, 1) := by decide +kernel
theorem s37_44 {d : Nat} {st : List Value} {σ : am_I} {ρ : am_R} {g : am_J} {τ : am_T} {Q : am_Q} {x0 x1 x2 x3 : Value} : AW d 37 44 [x0, x1, x2, x3] (st) σ ρ g τ Q = AW d 37 45 [x0, x1, x2, x3] (.int 2 :: st) σ ρ g τ Q := aw_lc m37 d37_44 rfl rfl rfl
theorem d37_45 : decode cX3_takenUpTo 45 = .ok (.invokevirtual 174, 3) := by decide +kernel
theorem s37_45 {d : Nat} {st : List Value} {σ : am_I} {ρ : am_R} {g : am_J} {τ : am_T} {Q : am_Q} {x0 x1 x2 x3 : Value} {p0 : Nat} {p1 : Int32} {p2 : Int32} (ht : τ.1 p0 = 4) (hs : st.length ≤ 4) : AW (d + 1) 37 45 [x0, x1, x2, x3] (.int p2 :: .int p1 :: .ref p0 :: st) σ ρ g τ Q = AW d 46 0 [.ref p0, .int p1, .int p2] [] σ ρ g τ (fun r9 σ ρ g τ => AW (d + 1) 37 48 [x0, x1, x2, x3] (r9.toList ++ st) σ ρ g τ Q) := aw_cv m37 d37_45 rfl m46 rfl rfl (by decide) en46 ok46 rfl ht hs
theorem d37_48 : decode cX3_takenUpTo 48 = .ok (.if_icmp .ne 15, 3) := by decide +kernel
theorem s37_48 {d : Nat} {st : List Value} {σ : am_I} {ρ : am_R} {g : am_J} {τ : am_T} {Q : am_Q} {x0 x1 x2 x3 : Value} {v w : Int32} : AW d 37 48 [x0, x1, x2, x3] (.int w :: .int v :: st) σ ρ g τ Q = if ¬ v = w then AW d 37 63 [x0, x1, x2, x3] (st) σ ρ g τ Q else AW d 37 51 [x0, x1, x2, x3] (st) σ ρ g τ Q := aw_br m37 d37_48 rfl rfl rfl
theorem d37_51 : decode cX3_takenUpTo 51 = .ok (.iload_n 2, 1) := by decide +kernel
theorem s37_51 {d : Nat} {st : List Value} {σ : am_I} {ρ : am_R} {g : am_J} {τ : am_T} {Q : am_Q} {x0 x1 x3 : Value} {v : Int32} : AW d 37 51 [x0, x1, .int v, x3] (st) σ ρ g τ Q = AW d 37 52 [x0, x1, .int v, x3] (.int v :: st) σ ρ g τ Q := aw_lc m37 d37_51 rfl rfl rfl
theorem d37_52 : decode cX3_takenUpTo 52 = .ok (.aload_n 0, 1) := by decide +kernel
theorem s37_52 {d : Nat} {st : List Value} {σ : am_I} {ρ : am_R} {g : am_J} {τ : am_T} {Q : am_Q} {x1 x2 x3 : Value} {v : Nat} : AW d 37 52 [.ref v, x1, x2, x3] (st) σ ρ g τ Q = AW d 37 53 [.ref v, x1, x2, x3] (.ref v :: st) σ ρ g τ Q := aw_lc m37 d37_52 rfl rfl rfl
theorem d37_53 : decode cX3_takenUpTo 53 = .ok (.getfield 76, 3) := by decide +kernel
theorem s37_53 {d : Nat} {st : List Value} {σ : am_I} {ρ : am_R} {g : am_J} {τ : am_T} {Q : am_Q} {x0 x1 x2 x3 : Value} {a : Nat} (ht : τ.1 a = 3) : AW d 37 53 [x0, x1, x2, x3] (.ref a :: st) σ ρ g τ Q = AW d 37 56 [x0, x1, x2, x3] (va_rf (ρ a 14) :: st) σ ρ g τ Q := aw_gr m37 d37_53 rfl rfl rfl ht
theorem d37_56 : decode cX3_takenUpTo 56 = .ok (.iload_n 3, 1) := by decide +kernel
theorem s37_56 {d : Nat} {st : List Value} {σ : am_I} {ρ : am_R} {g : am_J} {τ : am_T} {Q : am_Q} {x0 x1 x2 : Value} {v : Int32} : AW d 37 56 [x0, x1, x2, .int v] (st) σ ρ g τ Q = AW d 37 57 [x0, x1, x2, .int v] (.int v :: st) σ ρ g τ Q := aw_lc m37 d37_56 rfl rfl rfl
theorem d37_57 : decode cX3_takenUpTo 57 = .ok (.iconst 1, 1) := by decide +kernel
theorem s37_57 {d : Nat} {st : List Value} {σ : am_I} {ρ : am_R} {g : am_J} {τ : am_T} {Q : am_Q} {x0 x1 x2 x3 : Value} : AW d 37 57 [x0, x1, x2, x3] (st) σ ρ g τ Q = AW d 37 58 [x0, x1, x2, x3] (.int 1 :: st) σ ρ g τ Q := aw_lc m37 d37_57 rfl rfl rfl
theorem d37_58 : decode cX3_takenUpTo 58 = .ok (.invokevirtual 174, 3) := by decide +kernel
theorem s37_58 {d : Nat} {st : List Value} {σ : am_I} {ρ : am_R} {g : am_J} {τ : am_T} {Q : am_Q} {x0 x1 x2 x3 : Value} {p0 : Nat} {p1 : Int32} {p2 : Int32} (ht : τ.1 p0 = 4) (hs : st.length ≤ 4) : AW (d + 1) 37 58 [x0, x1, x2, x3] (.int p2 :: .int p1 :: .ref p0 :: st) σ ρ g τ Q = AW d 46 0 [.ref p0, .int p1, .int p2] [] σ ρ g τ (fun r9 σ ρ g τ => AW (d + 1) 37 61 [x0, x1, x2, x3] (r9.toList ++ st) σ ρ g τ Q) := aw_cv m37 d37_58 rfl m46 rfl rfl (by decide) en46 ok46 rfl ht hs
theorem d37_61 : decode cX3_takenUpTo 61 = .ok (.iadd, 1) := by decide +kernel
theorem s37_61 {d : Nat} {st : List Value} {σ : am_I} {ρ : am_R} {g : am_J} {τ : am_T} {Q : am_Q} {x0 x1 x2 x3 : Value} {v w : Int32} : AW d 37 61 [x0, x1, x2, x3] (.int w :: .int v :: st) σ ρ g τ Q = AW d 37 62 [x0, x1, x2, x3] (.int (v + w) :: st) σ ρ g τ Q := aw_lc m37 d37_61 rfl rfl rfl
theorem d37_62 : decode cX3_takenUpTo 62 = .ok (.istore_n 2, 1) := by decide +kernel
theorem s37_62 {d : Nat} {st : List Value} {σ : am_I} {ρ : am_R} {g : am_J} {τ : am_T} {Q : am_Q} {x0 x2 x3 : Value} {v : Int32} {u : Int32} : AW d 37 62 [x0, .int u, x2, x3] (.int v :: st) σ ρ g τ Q = AW d 37 63 [x0, .int u, .int v, x3] (st) σ ρ g τ Q := aw_lc m37 d37_62 rfl rfl rfl
theorem d37_63 : decode cX3_takenUpTo 63 = .ok (.iinc 3 1, 3) := by decide +kernel
theorem s37_63 {d : Nat} {st : List Value} {σ : am_I} {ρ : am_R} {g : am_J} {τ : am_T} {Q : am_Q} {x0 x1 : Value} {v : Int32} {u : Int32} : AW d 37 63 [x0, x1, .int u, .int v] (st) σ ρ g τ Q = AW d 37 66 [x0, x1, .int u, .int (v + 1)] (st) σ ρ g τ Q := aw_lc m37 d37_63 rfl rfl rfl
theorem d37_66 : decode cX3_takenUpTo 66 = .ok (.goto (-62), 3) := by decide +kernel
theorem s37_66 {d : Nat} {st : List Value} {σ : am_I} {ρ : am_R} {g : am_J} {τ : am_T} {Q : am_Q} {x0 x1 x2 x3 : Value} : AW d 37 66 [x0, x1, x2, x3] (st) σ ρ g τ Q = AW d 37 4 [x0, x1, x2, x3] (st) σ ρ g τ Q := aw_lc m37 d37_66 rfl rfl rfl
theorem d37_69 : decode cX3_takenUpTo 69 = .ok (.iload_n 2, 1) := by decide +kernel
theorem s37_69 {d : Nat} {st : List Value} {σ : am_I} {ρ : am_R} {g : am_J} {τ : am_T} {Q : am_Q} {x0 x1 x3 : Value} {v : Int32} : AW d 37 69 [x0, x1, .int v, x3] (st) σ ρ g τ Q = AW d 37 70 [x0, x1, .int v, x3] (.int v :: st) σ ρ g τ Q := aw_lc m37 d37_69 rfl rfl rfl
theorem d37_70 : decode cX3_takenUpTo 70 = .ok (.ireturn, 1) := by decide +kernel
theorem s37_70 {d : Nat} {σ : am_I} {ρ : am_R} {g : am_J} {τ : am_T} {Q : am_Q} {x0 x1 x2 x3 : Value} {v : Int32} : AW d 37 70 [x0, x1, x2, x3] ([.int v]) σ ρ g τ Q = Q (some (.int v)) σ ρ g τ := aw_ri m37 d37_70 rfl
theorem d38_0 : decode cX3_mayTake 0 = .ok (.aload_n 0, 1) := by decide +kernel
theorem s38_0 {d : Nat} {st : List Value} {σ : am_I} {ρ : am_R} {g : am_J} {τ : am_T} {Q : am_Q} {x1 x2 : Value} {v : Nat} : AW d 38 0 [.ref v, x1, x2] (st) σ ρ g τ Q = AW d 38 1 [.ref v, x1, x2] (.ref v :: st) σ ρ g τ Q := aw_lc m38 d38_0 rfl rfl rfl
theorem d38_1 : decode cX3_mayTake 1 = .ok (.aload_n 0, 1) := by decide +kernel
theorem s38_1 {d : Nat} {st : List Value} {σ : am_I} {ρ : am_R} {g : am_J} {τ : am_T} {Q : am_Q} {x1 x2 : Value} {v : Nat} : AW d 38 1 [.ref v, x1, x2] (st) σ ρ g τ Q = AW d 38 2 [.ref v, x1, x2] (.ref v :: st) σ ρ g τ Q := aw_lc m38 d38_1 rfl rfl rfl
theorem d38_2 : decode cX3_mayTake 2 = .ok (.getfield 76, 3) := by decide +kernel
theorem s38_2 {d : Nat} {st : List Value} {σ : am_I} {ρ : am_R} {g : am_J} {τ : am_T} {Q : am_Q} {x0 x1 x2 : Value} {a : Nat} (ht : τ.1 a = 3) : AW d 38 2 [x0, x1, x2] (.ref a :: st) σ ρ g τ Q = AW d 38 5 [x0, x1, x2] (va_rf (ρ a 14) :: st) σ ρ g τ Q := aw_gr m38 d38_2 rfl rfl rfl ht
theorem d38_5 : decode cX3_mayTake 5 = .ok (.iload_n 1, 1) := by decide +kernel
theorem s38_5 {d : Nat} {st : List Value} {σ : am_I} {ρ : am_R} {g : am_J} {τ : am_T} {Q : am_Q} {x0 x2 : Value} {v : Int32} : AW d 38 5 [x0, .int v, x2] (st) σ ρ g τ Q = AW d 38 6 [x0, .int v, x2] (.int v :: st) σ ρ g τ Q := aw_lc m38 d38_5 rfl rfl rfl
theorem d38_6 : decode cX3_mayTake 6 = .ok (.iconst 2, 1) := by decide +kernel
theorem s38_6 {d : Nat} {st : List Value} {σ : am_I} {ρ : am_R} {g : am_J} {τ : am_T} {Q : am_Q} {x0 x1 x2 : Value} : AW d 38 6 [x0, x1, x2] (st) σ ρ g τ Q = AW d 38 7 [x0, x1, x2] (.int 2 :: st) σ ρ g τ Q := aw_lc m38 d38_6 rfl rfl rfl
theorem d38_7 : decode cX3_mayTake 7 = .ok (.invokevirtual 174, 3) := by decide +kernel
theorem s38_7 {d : Nat} {st : List Value} {σ : am_I} {ρ : am_R} {g : am_J} {τ : am_T} {Q : am_Q} {x0 x1 x2 : Value} {p0 : Nat} {p1 : Int32} {p2 : Int32} (ht : τ.1 p0 = 4) (hs : st.length ≤ 4) : AW (d + 1) 38 7 [x0, x1, x2] (.int p2 :: .int p1 :: .ref p0 :: st) σ ρ g τ Q = AW d 46 0 [.ref p0, .int p1, .int p2] [] σ ρ g τ (fun r9 σ ρ g τ => AW (d + 1) 38 10 [x0, x1, x2] (r9.toList ++ st) σ ρ g τ Q) := aw_cv m38 d38_7 rfl m46 rfl rfl (by decide) en46 ok46 rfl ht hs
theorem d38_10 : decode cX3_mayTake 10 = .ok (.invokevirtual 177, 3) := by decide +kernel
theorem s38_10 {d : Nat} {st : List Value} {σ : am_I} {ρ : am_R} {g : am_J} {τ : am_T} {Q : am_Q} {x0 x1 x2 : Value} {p0 : Nat} {p1 : Int32} (ht : τ.1 p0 = 3) (hs : st.length ≤ 4) : AW (d + 1) 38 10 [x0, x1, x2] (.int p1 :: .ref p0 :: st) σ ρ g τ Q = AW d 26 0 [.ref p0, .int p1, am_jk] [] σ ρ g τ (fun r9 σ ρ g τ => AW (d + 1) 38 13 [x0, x1, x2] (r9.toList ++ st) σ ρ g τ Q) := aw_cv m38 d38_10 rfl m26 rfl rfl (by decide) en26 ok26 rfl ht hs
theorem d38_13 : decode cX3_mayTake 13 = .ok (.astore_n 2, 1) := by decide +kernel
theorem s38_13 {d : Nat} {st : List Value} {σ : am_I} {ρ : am_R} {g : am_J} {τ : am_T} {Q : am_Q} {x0 x2 : Value} {v : Nat} {u : Int32} : AW d 38 13 [x0, .int u, x2] (.ref v :: st) σ ρ g τ Q = AW d 38 14 [x0, .int u, .ref v] (st) σ ρ g τ Q := aw_lc m38 d38_13 rfl rfl rfl
theorem d38_14 : decode cX3_mayTake 14 = .ok (.aload_n 2, 1) := by decide +kernel
theorem s38_14 {d : Nat} {st : List Value} {σ : am_I} {ρ : am_R} {g : am_J} {τ : am_T} {Q : am_Q} {x0 x1 : Value} {v : Nat} : AW d 38 14 [x0, x1, .ref v] (st) σ ρ g τ Q = AW d 38 15 [x0, x1, .ref v] (.ref v :: st) σ ρ g τ Q := aw_lc m38 d38_14 rfl rfl rfl
theorem d38_15 : decode cX3_mayTake 15 = .ok (.iconst 3, 1) := by decide +kernel
theorem s38_15 {d : Nat} {st : List Value} {σ : am_I} {ρ : am_R} {g : am_J} {τ : am_T} {Q : am_Q} {x0 x1 x2 : Value} : AW d 38 15 [x0, x1, x2] (st) σ ρ g τ Q = AW d 38 16 [x0, x1, x2] (.int 3 :: st) σ ρ g τ Q := aw_lc m38 d38_15 rfl rfl rfl
theorem d38_16 : decode cX3_mayTake 16 = .ok (.aload_n 0, 1) := by decide +kernel
theorem s38_16 {d : Nat} {st : List Value} {σ : am_I} {ρ : am_R} {g : am_J} {τ : am_T} {Q : am_Q} {x1 x2 : Value} {v : Nat} : AW d 38 16 [.ref v, x1, x2] (st) σ ρ g τ Q = AW d 38 17 [.ref v, x1, x2] (.ref v :: st) σ ρ g τ Q := aw_lc m38 d38_16 rfl rfl rfl
theorem d38_17 : decode cX3_mayTake 17 = .ok (.getfield 76, 3) := by decide +kernel
theorem s38_17 {d : Nat} {st : List Value} {σ : am_I} {ρ : am_R} {g : am_J} {τ : am_T} {Q : am_Q} {x0 x1 x2 : Value} {a : Nat} (ht : τ.1 a = 3) : AW d 38 17 [x0, x1, x2] (.ref a :: st) σ ρ g τ Q = AW d 38 20 [x0, x1, x2] (va_rf (ρ a 14) :: st) σ ρ g τ Q := aw_gr m38 d38_17 rfl rfl rfl ht
theorem d38_20 : decode cX3_mayTake 20 = .ok (.iload_n 1, 1) := by decide +kernel
theorem s38_20 {d : Nat} {st : List Value} {σ : am_I} {ρ : am_R} {g : am_J} {τ : am_T} {Q : am_Q} {x0 x2 : Value} {v : Int32} : AW d 38 20 [x0, .int v, x2] (st) σ ρ g τ Q = AW d 38 21 [x0, .int v, x2] (.int v :: st) σ ρ g τ Q := aw_lc m38 d38_20 rfl rfl rfl
theorem d38_21 : decode cX3_mayTake 21 = .ok (.iconst 0, 1) := by decide +kernel
theorem s38_21 {d : Nat} {st : List Value} {σ : am_I} {ρ : am_R} {g : am_J} {τ : am_T} {Q : am_Q} {x0 x1 x2 : Value} : AW d 38 21 [x0, x1, x2] (st) σ ρ g τ Q = AW d 38 22 [x0, x1, x2] (.int 0 :: st) σ ρ g τ Q := aw_lc m38 d38_21 rfl rfl rfl
theorem d38_22 : decode cX3_mayTake 22 = .ok (.invokevirtual 174, 3) := by decide +kernel
theorem s38_22 {d : Nat} {st : List Value} {σ : am_I} {ρ : am_R} {g : am_J} {τ : am_T} {Q : am_Q} {x0 x1 x2 : Value} {p0 : Nat} {p1 : Int32} {p2 : Int32} (ht : τ.1 p0 = 4) (hs : st.length ≤ 4) : AW (d + 1) 38 22 [x0, x1, x2] (.int p2 :: .int p1 :: .ref p0 :: st) σ ρ g τ Q = AW d 46 0 [.ref p0, .int p1, .int p2] [] σ ρ g τ (fun r9 σ ρ g τ => AW (d + 1) 38 25 [x0, x1, x2] (r9.toList ++ st) σ ρ g τ Q) := aw_cv m38 d38_22 rfl m46 rfl rfl (by decide) en46 ok46 rfl ht hs
theorem d38_25 : decode cX3_mayTake 25 = .ok (.invokevirtual 181, 3) := by decide +kernel
theorem s38_25 {d : Nat} {st : List Value} {σ : am_I} {ρ : am_R} {g : am_J} {τ : am_T} {Q : am_Q} {x0 x1 x2 : Value} {p0 : Nat} {p1 : Int32} {p2 : Int32} (ht : τ.1 p0 = 9) (hs : st.length ≤ 4) : AW (d + 1) 38 25 [x0, x1, x2] (.int p2 :: .int p1 :: .ref p0 :: st) σ ρ g τ Q = AW d 75 0 [.ref p0, .int p1, .int p2, am_jk] [] σ ρ g τ (fun r9 σ ρ g τ => AW (d + 1) 38 28 [x0, x1, x2] (r9.toList ++ st) σ ρ g τ Q) := aw_cv m38 d38_25 rfl m75 rfl rfl (by decide) en75 ok75 rfl ht hs
theorem d38_28 : decode cX3_mayTake 28 = .ok (.ireturn, 1) := by decide +kernel
theorem s38_28 {d : Nat} {σ : am_I} {ρ : am_R} {g : am_J} {τ : am_T} {Q : am_Q} {x0 x1 x2 : Value} {v : Int32} : AW d 38 28 [x0, x1, x2] ([.int v]) σ ρ g τ Q = Q (some (.int v)) σ ρ g τ := aw_ri m38 d38_28 rfl
theorem d39_0 : decode cX3_mutinies 0 = .ok (.iconst 0, 1) := by decide +kernel
theorem s39_0 {d : Nat} {st : List Value} {σ : am_I} {ρ : am_R} {g : am_J} {τ : am_T} {Q : am_Q} {x0 x1 x2 : Value} : AW d 39 0 [x0, x1, x2] (st) σ ρ g τ Q = AW d 39 1 [x0, x1, x2] (.int 0 :: st) σ ρ g τ Q := aw_lc m39 d39_0 rfl rfl rfl
theorem d39_1 : decode cX3_mutinies 1 = .ok (.istore_n 1, 1) := by decide +kernel
theorem s39_1r {d : Nat} {st : List Value} {σ : am_I} {ρ : am_R} {g : am_J} {τ : am_T} {Q : am_Q} {x1 x2 : Value} {v : Int32} {u : Nat} : AW d 39 1 [.ref u, x1, x2] (.int v :: st) σ ρ g τ Q = AW d 39 2 [.ref u, .int v, x2] (st) σ ρ g τ Q := aw_lc m39 d39_1 rfl rfl rfl
theorem d39_2 : decode cX3_mutinies 2 = .ok (.iconst 0, 1) := by decide +kernel
theorem s39_2 {d : Nat} {st : List Value} {σ : am_I} {ρ : am_R} {g : am_J} {τ : am_T} {Q : am_Q} {x0 x1 x2 : Value} : AW d 39 2 [x0, x1, x2] (st) σ ρ g τ Q = AW d 39 3 [x0, x1, x2] (.int 0 :: st) σ ρ g τ Q := aw_lc m39 d39_2 rfl rfl rfl
theorem d39_3 : decode cX3_mutinies 3 = .ok (.istore_n 2, 1) := by decide +kernel
theorem s39_3 {d : Nat} {st : List Value} {σ : am_I} {ρ : am_R} {g : am_J} {τ : am_T} {Q : am_Q} {x0 x2 : Value} {v : Int32} {u : Int32} : AW d 39 3 [x0, .int u, x2] (.int v :: st) σ ρ g τ Q = AW d 39 4 [x0, .int u, .int v] (st) σ ρ g τ Q := aw_lc m39 d39_3 rfl rfl rfl
theorem d39_4 : decode cX3_mutinies 4 = .ok (.iload_n 2, 1) := by decide +kernel
theorem s39_4 {d : Nat} {st : List Value} {σ : am_I} {ρ : am_R} {g : am_J} {τ : am_T} {Q : am_Q} {x0 x1 : Value} {v : Int32} : AW d 39 4 [x0, x1, .int v] (st) σ ρ g τ Q = AW d 39 5 [x0, x1, .int v] (.int v :: st) σ ρ g τ Q := aw_lc m39 d39_4 rfl rfl rfl
theorem d39_5 : decode cX3_mutinies 5 = .ok (.aload_n 0, 1) := by decide +kernel
theorem s39_5 {d : Nat} {st : List Value} {σ : am_I} {ρ : am_R} {g : am_J} {τ : am_T} {Q : am_Q} {x1 x2 : Value} {v : Nat} : AW d 39 5 [.ref v, x1, x2] (st) σ ρ g τ Q = AW d 39 6 [.ref v, x1, x2] (.ref v :: st) σ ρ g τ Q := aw_lc m39 d39_5 rfl rfl rfl
theorem d39_6 : decode cX3_mutinies 6 = .ok (.getfield 34, 3) := by decide +kernel
theorem s39_6 {d : Nat} {st : List Value} {σ : am_I} {ρ : am_R} {g : am_J} {τ : am_T} {Q : am_Q} {x0 x1 x2 : Value} {a : Nat} (ht : τ.1 a = 3) : AW d 39 6 [x0, x1, x2] (.ref a :: st) σ ρ g τ Q = AW d 39 9 [x0, x1, x2] (.int (σ a 6) :: st) σ ρ g τ Q := aw_gi m39 d39_6 rfl rfl rfl ht
theorem d39_9 : decode cX3_mutinies 9 = .ok (.if_icmp .ge 24, 3) := by decide +kernel
theorem s39_9 {d : Nat} {st : List Value} {σ : am_I} {ρ : am_R} {g : am_J} {τ : am_T} {Q : am_Q} {x0 x1 x2 : Value} {v w : Int32} : AW d 39 9 [x0, x1, x2] (.int w :: .int v :: st) σ ρ g τ Q = if w ≤ v then AW d 39 33 [x0, x1, x2] (st) σ ρ g τ Q else AW d 39 12 [x0, x1, x2] (st) σ ρ g τ Q := aw_br m39 d39_9 rfl rfl rfl
theorem d39_12 : decode cX3_mutinies 12 = .ok (.aload_n 0, 1) := by decide +kernel
theorem s39_12 {d : Nat} {st : List Value} {σ : am_I} {ρ : am_R} {g : am_J} {τ : am_T} {Q : am_Q} {x1 x2 : Value} {v : Nat} : AW d 39 12 [.ref v, x1, x2] (st) σ ρ g τ Q = AW d 39 13 [.ref v, x1, x2] (.ref v :: st) σ ρ g τ Q := aw_lc m39 d39_12 rfl rfl rfl
theorem d39_13 : decode cX3_mutinies 13 = .ok (.getfield 30, 3) := by decide +kernel
theorem s39_13 {d : Nat} {st : List Value} {σ : am_I} {ρ : am_R} {g : am_J} {τ : am_T} {Q : am_Q} {x0 x1 x2 : Value} {a : Nat} (ht : τ.1 a = 3) : AW d 39 13 [x0, x1, x2] (.ref a :: st) σ ρ g τ Q = AW d 39 16 [x0, x1, x2] (va_rf (ρ a 5) :: st) σ ρ g τ Q := aw_gr m39 d39_13 rfl rfl rfl ht
theorem d39_16 : decode cX3_mutinies 16 = .ok (.iload_n 2, 1) := by decide +kernel
theorem s39_16 {d : Nat} {st : List Value} {σ : am_I} {ρ : am_R} {g : am_J} {τ : am_T} {Q : am_Q} {x0 x1 : Value} {v : Int32} : AW d 39 16 [x0, x1, .int v] (st) σ ρ g τ Q = AW d 39 17 [x0, x1, .int v] (.int v :: st) σ ρ g τ Q := aw_lc m39 d39_16 rfl rfl rfl
theorem d39_17 : decode cX3_mutinies 17 = .ok (.aaload, 1) := by decide +kernel
theorem s39_17 {d : Nat} {st : List Value} {σ : am_I} {ρ : am_R} {g : am_J} {τ : am_T} {Q : am_Q} {x0 x1 x2 : Value} {a : Nat} {j : Int32} (ht : 18 ≤ τ.1 a ∧ τ.1 a ≤ 22) (hj : am_inb j (τ.2.1 a) = true) : AW d 39 17 [x0, x1, x2] (.int j :: .ref a :: st) σ ρ g τ Q = AW d 39 18 [x0, x1, x2] (va_rf (ρ a j.toNatClampNeg) :: st) σ ρ g τ Q := aw_aal m39 d39_17 rfl ht hj
theorem d39_18 : decode cX3_mutinies 18 = .ok (.invokevirtual 120, 3) := by decide +kernel
theorem s39_18 {d : Nat} {st : List Value} {σ : am_I} {ρ : am_R} {g : am_J} {τ : am_T} {Q : am_Q} {x0 x1 x2 : Value} {p0 : Nat} (ht : τ.1 p0 = 7) (hs : st.length ≤ 4) : AW (d + 1) 39 18 [x0, x1, x2] (.ref p0 :: st) σ ρ g τ Q = AW d 61 0 [.ref p0] [] σ ρ g τ (fun r9 σ ρ g τ => AW (d + 1) 39 21 [x0, x1, x2] (r9.toList ++ st) σ ρ g τ Q) := aw_cv m39 d39_18 rfl m61 rfl rfl (by decide) en61 ok61 rfl ht hs
theorem d39_21 : decode cX3_mutinies 21 = .ok (.ifCond .eq 6, 3) := by decide +kernel
theorem s39_21 {d : Nat} {st : List Value} {σ : am_I} {ρ : am_R} {g : am_J} {τ : am_T} {Q : am_Q} {x0 x1 x2 : Value} {v : Int32} : AW d 39 21 [x0, x1, x2] (.int v :: st) σ ρ g τ Q = if v = 0 then AW d 39 27 [x0, x1, x2] (st) σ ρ g τ Q else AW d 39 24 [x0, x1, x2] (st) σ ρ g τ Q := aw_br m39 d39_21 rfl rfl rfl
theorem d39_24 : decode cX3_mutinies 24 = .ok (.iinc 1 1, 3) := by decide +kernel
theorem s39_24r {d : Nat} {st : List Value} {σ : am_I} {ρ : am_R} {g : am_J} {τ : am_T} {Q : am_Q} {x2 : Value} {v : Int32} {u : Nat} : AW d 39 24 [.ref u, .int v, x2] (st) σ ρ g τ Q = AW d 39 27 [.ref u, .int (v + 1), x2] (st) σ ρ g τ Q := aw_lc m39 d39_24 rfl rfl rfl
theorem d39_27 : decode cX3_mutinies 27 = .ok (.iinc 2 1, 3) := by decide +kernel
theorem s39_27 {d : Nat} {st : List Value} {σ : am_I} {ρ : am_R} {g : am_J} {τ : am_T} {Q : am_Q} {x0 : Value} {v : Int32} {u : Int32} : AW d 39 27 [x0, .int u, .int v] (st) σ ρ g τ Q = AW d 39 30 [x0, .int u, .int (v + 1)] (st) σ ρ g τ Q := aw_lc m39 d39_27 rfl rfl rfl
theorem d39_30 : decode cX3_mutinies 30 = .ok (.goto (-26), 3) := by decide +kernel
theorem s39_30 {d : Nat} {st : List Value} {σ : am_I} {ρ : am_R} {g : am_J} {τ : am_T} {Q : am_Q} {x0 x1 x2 : Value} : AW d 39 30 [x0, x1, x2] (st) σ ρ g τ Q = AW d 39 4 [x0, x1, x2] (st) σ ρ g τ Q := aw_lc m39 d39_30 rfl rfl rfl
theorem d39_33 : decode cX3_mutinies 33 = .ok (.iload_n 1, 1) := by decide +kernel
theorem s39_33 {d : Nat} {st : List Value} {σ : am_I} {ρ : am_R} {g : am_J} {τ : am_T} {Q : am_Q} {x0 x2 : Value} {v : Int32} : AW d 39 33 [x0, .int v, x2] (st) σ ρ g τ Q = AW d 39 34 [x0, .int v, x2] (.int v :: st) σ ρ g τ Q := aw_lc m39 d39_33 rfl rfl rfl
theorem d39_34 : decode cX3_mutinies 34 = .ok (.ireturn, 1) := by decide +kernel
theorem s39_34 {d : Nat} {σ : am_I} {ρ : am_R} {g : am_J} {τ : am_T} {Q : am_Q} {x0 x1 x2 : Value} {v : Int32} : AW d 39 34 [x0, x1, x2] ([.int v]) σ ρ g τ Q = Q (some (.int v)) σ ρ g τ := aw_ri m39 d39_34 rfl
theorem d40_0 : decode cX3_voidDebts 0 = .ok (.iconst 0, 1) := by decide +kernel
theorem s40_0 {d : Nat} {st : List Value} {σ : am_I} {ρ : am_R} {g : am_J} {τ : am_T} {Q : am_Q} {x0 x1 x2 : Value} : AW d 40 0 [x0, x1, x2] (st) σ ρ g τ Q = AW d 40 1 [x0, x1, x2] (.int 0 :: st) σ ρ g τ Q := aw_lc m40 d40_0 rfl rfl rfl
theorem d40_1 : decode cX3_voidDebts 1 = .ok (.istore_n 1, 1) := by decide +kernel
theorem s40_1r {d : Nat} {st : List Value} {σ : am_I} {ρ : am_R} {g : am_J} {τ : am_T} {Q : am_Q} {x1 x2 : Value} {v : Int32} {u : Nat} : AW d 40 1 [.ref u, x1, x2] (.int v :: st) σ ρ g τ Q = AW d 40 2 [.ref u, .int v, x2] (st) σ ρ g τ Q := aw_lc m40 d40_1 rfl rfl rfl
theorem d40_2 : decode cX3_voidDebts 2 = .ok (.iconst 0, 1) := by decide +kernel
theorem s40_2 {d : Nat} {st : List Value} {σ : am_I} {ρ : am_R} {g : am_J} {τ : am_T} {Q : am_Q} {x0 x1 x2 : Value} : AW d 40 2 [x0, x1, x2] (st) σ ρ g τ Q = AW d 40 3 [x0, x1, x2] (.int 0 :: st) σ ρ g τ Q := aw_lc m40 d40_2 rfl rfl rfl
theorem d40_3 : decode cX3_voidDebts 3 = .ok (.istore_n 2, 1) := by decide +kernel
theorem s40_3 {d : Nat} {st : List Value} {σ : am_I} {ρ : am_R} {g : am_J} {τ : am_T} {Q : am_Q} {x0 x2 : Value} {v : Int32} {u : Int32} : AW d 40 3 [x0, .int u, x2] (.int v :: st) σ ρ g τ Q = AW d 40 4 [x0, .int u, .int v] (st) σ ρ g τ Q := aw_lc m40 d40_3 rfl rfl rfl
theorem d40_4 : decode cX3_voidDebts 4 = .ok (.iload_n 2, 1) := by decide +kernel
theorem s40_4 {d : Nat} {st : List Value} {σ : am_I} {ρ : am_R} {g : am_J} {τ : am_T} {Q : am_Q} {x0 x1 : Value} {v : Int32} : AW d 40 4 [x0, x1, .int v] (st) σ ρ g τ Q = AW d 40 5 [x0, x1, .int v] (.int v :: st) σ ρ g τ Q := aw_lc m40 d40_4 rfl rfl rfl
theorem d40_5 : decode cX3_voidDebts 5 = .ok (.aload_n 0, 1) := by decide +kernel
theorem s40_5 {d : Nat} {st : List Value} {σ : am_I} {ρ : am_R} {g : am_J} {τ : am_T} {Q : am_Q} {x1 x2 : Value} {v : Nat} : AW d 40 5 [.ref v, x1, x2] (st) σ ρ g τ Q = AW d 40 6 [.ref v, x1, x2] (.ref v :: st) σ ρ g τ Q := aw_lc m40 d40_5 rfl rfl rfl
theorem d40_6 : decode cX3_voidDebts 6 = .ok (.getfield 43, 3) := by decide +kernel
theorem s40_6 {d : Nat} {st : List Value} {σ : am_I} {ρ : am_R} {g : am_J} {τ : am_T} {Q : am_Q} {x0 x1 x2 : Value} {a : Nat} (ht : τ.1 a = 3) : AW d 40 6 [x0, x1, x2] (.ref a :: st) σ ρ g τ Q = AW d 40 9 [x0, x1, x2] (.int (σ a 8) :: st) σ ρ g τ Q := aw_gi m40 d40_6 rfl rfl rfl ht
theorem d40_9 : decode cX3_voidDebts 9 = .ok (.if_icmp .ge 24, 3) := by decide +kernel
theorem s40_9 {d : Nat} {st : List Value} {σ : am_I} {ρ : am_R} {g : am_J} {τ : am_T} {Q : am_Q} {x0 x1 x2 : Value} {v w : Int32} : AW d 40 9 [x0, x1, x2] (.int w :: .int v :: st) σ ρ g τ Q = if w ≤ v then AW d 40 33 [x0, x1, x2] (st) σ ρ g τ Q else AW d 40 12 [x0, x1, x2] (st) σ ρ g τ Q := aw_br m40 d40_9 rfl rfl rfl
theorem d40_12 : decode cX3_voidDebts 12 = .ok (.aload_n 0, 1) := by decide +kernel
theorem s40_12 {d : Nat} {st : List Value} {σ : am_I} {ρ : am_R} {g : am_J} {τ : am_T} {Q : am_Q} {x1 x2 : Value} {v : Nat} : AW d 40 12 [.ref v, x1, x2] (st) σ ρ g τ Q = AW d 40 13 [.ref v, x1, x2] (.ref v :: st) σ ρ g τ Q := aw_lc m40 d40_12 rfl rfl rfl
theorem d40_13 : decode cX3_voidDebts 13 = .ok (.getfield 39, 3) := by decide +kernel
theorem s40_13 {d : Nat} {st : List Value} {σ : am_I} {ρ : am_R} {g : am_J} {τ : am_T} {Q : am_Q} {x0 x1 x2 : Value} {a : Nat} (ht : τ.1 a = 3) : AW d 40 13 [x0, x1, x2] (.ref a :: st) σ ρ g τ Q = AW d 40 16 [x0, x1, x2] (va_rf (ρ a 7) :: st) σ ρ g τ Q := aw_gr m40 d40_13 rfl rfl rfl ht
theorem d40_16 : decode cX3_voidDebts 16 = .ok (.iload_n 2, 1) := by decide +kernel
theorem s40_16 {d : Nat} {st : List Value} {σ : am_I} {ρ : am_R} {g : am_J} {τ : am_T} {Q : am_Q} {x0 x1 : Value} {v : Int32} : AW d 40 16 [x0, x1, .int v] (st) σ ρ g τ Q = AW d 40 17 [x0, x1, .int v] (.int v :: st) σ ρ g τ Q := aw_lc m40 d40_16 rfl rfl rfl
theorem d40_17 : decode cX3_voidDebts 17 = .ok (.aaload, 1) := by decide +kernel
theorem s40_17 {d : Nat} {st : List Value} {σ : am_I} {ρ : am_R} {g : am_J} {τ : am_T} {Q : am_Q} {x0 x1 x2 : Value} {a : Nat} {j : Int32} (ht : 18 ≤ τ.1 a ∧ τ.1 a ≤ 22) (hj : am_inb j (τ.2.1 a) = true) : AW d 40 17 [x0, x1, x2] (.int j :: .ref a :: st) σ ρ g τ Q = AW d 40 18 [x0, x1, x2] (va_rf (ρ a j.toNatClampNeg) :: st) σ ρ g τ Q := aw_aal m40 d40_17 rfl ht hj
theorem d40_18 : decode cX3_voidDebts 18 = .ok (.getfield 184, 3) := by decide +kernel
theorem s40_18 {d : Nat} {st : List Value} {σ : am_I} {ρ : am_R} {g : am_J} {τ : am_T} {Q : am_Q} {x0 x1 x2 : Value} {a : Nat} (ht : τ.1 a = 1) : AW d 40 18 [x0, x1, x2] (.ref a :: st) σ ρ g τ Q = AW d 40 21 [x0, x1, x2] (.int (σ a 8) :: st) σ ρ g τ Q := aw_gi m40 d40_18 rfl rfl rfl ht
theorem d40_21 : decode cX3_voidDebts 21 = .ok (.ifCond .eq 6, 3) := by decide +kernel
theorem s40_21 {d : Nat} {st : List Value} {σ : am_I} {ρ : am_R} {g : am_J} {τ : am_T} {Q : am_Q} {x0 x1 x2 : Value} {v : Int32} : AW d 40 21 [x0, x1, x2] (.int v :: st) σ ρ g τ Q = if v = 0 then AW d 40 27 [x0, x1, x2] (st) σ ρ g τ Q else AW d 40 24 [x0, x1, x2] (st) σ ρ g τ Q := aw_br m40 d40_21 rfl rfl rfl
theorem d40_24 : decode cX3_voidDebts 24 = .ok (.iinc 1 1, 3) := by decide +kernel
theorem s40_24r {d : Nat} {st : List Value} {σ : am_I} {ρ : am_R} {g : am_J} {τ : am_T} {Q : am_Q} {x2 : Value} {v : Int32} {u : Nat} : AW d 40 24 [.ref u, .int v, x2] (st) σ ρ g τ Q = AW d 40 27 [.ref u, .int (v + 1), x2] (st) σ ρ g τ Q := aw_lc m40 d40_24 rfl rfl rfl
theorem d40_27 : decode cX3_voidDebts 27 = .ok (.iinc 2 1, 3) := by decide +kernel
theorem s40_27 {d : Nat} {st : List Value} {σ : am_I} {ρ : am_R} {g : am_J} {τ : am_T} {Q : am_Q} {x0 : Value} {v : Int32} {u : Int32} : AW d 40 27 [x0, .int u, .int v] (st) σ ρ g τ Q = AW d 40 30 [x0, .int u, .int (v + 1)] (st) σ ρ g τ Q := aw_lc m40 d40_27 rfl rfl rfl
theorem d40_30 : decode cX3_voidDebts 30 = .ok (.goto (-26), 3) := by decide +kernel
theorem s40_30 {d : Nat} {st : List Value} {σ : am_I} {ρ : am_R} {g : am_J} {τ : am_T} {Q : am_Q} {x0 x1 x2 : Value} : AW d 40 30 [x0, x1, x2] (st) σ ρ g τ Q = AW d 40 4 [x0, x1, x2] (st) σ ρ g τ Q := aw_lc m40 d40_30 rfl rfl rfl
theorem d40_33 : decode cX3_voidDebts 33 = .ok (.iload_n 1, 1) := by decide +kernel
theorem s40_33 {d : Nat} {st : List Value} {σ : am_I} {ρ : am_R} {g : am_J} {τ : am_T} {Q : am_Q} {x0 x2 : Value} {v : Int32} : AW d 40 33 [x0, .int v, x2] (st) σ ρ g τ Q = AW d 40 34 [x0, .int v, x2] (.int v :: st) σ ρ g τ Q := aw_lc m40 d40_33 rfl rfl rfl
theorem d40_34 : decode cX3_voidDebts 34 = .ok (.ireturn, 1) := by decide +kernel
theorem s40_34 {d : Nat} {σ : am_I} {ρ : am_R} {g : am_J} {τ : am_T} {Q : am_Q} {x0 x1 x2 : Value} {v : Int32} : AW d 40 34 [x0, x1, x2] ([.int v]) σ ρ g τ Q = Q (some (.int v)) σ ρ g τ := aw_ri m40 d40_34 rfl
theorem d41_0 : decode cX3_owedInAll 0 = .ok (.iconst 0, 1) := by decide +kernel
theorem s41_0 {d : Nat} {st : List Value} {σ : am_I} {ρ : am_R} {g : am_J} {τ : am_T} {Q : am_Q} {x0 x1 x2 : Value} : AW d 41 0 [x0, x1, x2] (st) σ ρ g τ Q = AW d 41 1 [x0, x1, x2] (.int 0 :: st) σ ρ g τ Q := aw_lc m41 d41_0 rfl rfl rfl
theorem d41_1 : decode cX3_owedInAll 1 = .ok (.istore_n 1, 1) := by decide +kernel
theorem s41_1r {d : Nat} {st : List Value} {σ : am_I} {ρ : am_R} {g : am_J} {τ : am_T} {Q : am_Q} {x1 x2 : Value} {v : Int32} {u : Nat} : AW d 41 1 [.ref u, x1, x2] (.int v :: st) σ ρ g τ Q = AW d 41 2 [.ref u, .int v, x2] (st) σ ρ g τ Q := aw_lc m41 d41_1 rfl rfl rfl
theorem d41_2 : decode cX3_owedInAll 2 = .ok (.iconst 0, 1) := by decide +kernel
theorem s41_2 {d : Nat} {st : List Value} {σ : am_I} {ρ : am_R} {g : am_J} {τ : am_T} {Q : am_Q} {x0 x1 x2 : Value} : AW d 41 2 [x0, x1, x2] (st) σ ρ g τ Q = AW d 41 3 [x0, x1, x2] (.int 0 :: st) σ ρ g τ Q := aw_lc m41 d41_2 rfl rfl rfl
theorem d41_3 : decode cX3_owedInAll 3 = .ok (.istore_n 2, 1) := by decide +kernel
theorem s41_3 {d : Nat} {st : List Value} {σ : am_I} {ρ : am_R} {g : am_J} {τ : am_T} {Q : am_Q} {x0 x2 : Value} {v : Int32} {u : Int32} : AW d 41 3 [x0, .int u, x2] (.int v :: st) σ ρ g τ Q = AW d 41 4 [x0, .int u, .int v] (st) σ ρ g τ Q := aw_lc m41 d41_3 rfl rfl rfl
theorem d41_4 : decode cX3_owedInAll 4 = .ok (.iload_n 2, 1) := by decide +kernel
theorem s41_4 {d : Nat} {st : List Value} {σ : am_I} {ρ : am_R} {g : am_J} {τ : am_T} {Q : am_Q} {x0 x1 : Value} {v : Int32} : AW d 41 4 [x0, x1, .int v] (st) σ ρ g τ Q = AW d 41 5 [x0, x1, .int v] (.int v :: st) σ ρ g τ Q := aw_lc m41 d41_4 rfl rfl rfl
theorem d41_5 : decode cX3_owedInAll 5 = .ok (.aload_n 0, 1) := by decide +kernel
theorem s41_5 {d : Nat} {st : List Value} {σ : am_I} {ρ : am_R} {g : am_J} {τ : am_T} {Q : am_Q} {x1 x2 : Value} {v : Nat} : AW d 41 5 [.ref v, x1, x2] (st) σ ρ g τ Q = AW d 41 6 [.ref v, x1, x2] (.ref v :: st) σ ρ g τ Q := aw_lc m41 d41_5 rfl rfl rfl
theorem d41_6 : decode cX3_owedInAll 6 = .ok (.getfield 43, 3) := by decide +kernel
theorem s41_6 {d : Nat} {st : List Value} {σ : am_I} {ρ : am_R} {g : am_J} {τ : am_T} {Q : am_Q} {x0 x1 x2 : Value} {a : Nat} (ht : τ.1 a = 3) : AW d 41 6 [x0, x1, x2] (.ref a :: st) σ ρ g τ Q = AW d 41 9 [x0, x1, x2] (.int (σ a 8) :: st) σ ρ g τ Q := aw_gi m41 d41_6 rfl rfl rfl ht
theorem d41_9 : decode cX3_owedInAll 9 = .ok (.if_icmp .ge 21, 3) := by decide +kernel
theorem s41_9 {d : Nat} {st : List Value} {σ : am_I} {ρ : am_R} {g : am_J} {τ : am_T} {Q : am_Q} {x0 x1 x2 : Value} {v w : Int32} : AW d 41 9 [x0, x1, x2] (.int w :: .int v :: st) σ ρ g τ Q = if w ≤ v then AW d 41 30 [x0, x1, x2] (st) σ ρ g τ Q else AW d 41 12 [x0, x1, x2] (st) σ ρ g τ Q := aw_br m41 d41_9 rfl rfl rfl
theorem d41_12 : decode cX3_owedInAll 12 = .ok (.iload_n 1, 1) := by decide +kernel
theorem s41_12 {d : Nat} {st : List Value} {σ : am_I} {ρ : am_R} {g : am_J} {τ : am_T} {Q : am_Q} {x0 x2 : Value} {v : Int32} : AW d 41 12 [x0, .int v, x2] (st) σ ρ g τ Q = AW d 41 13 [x0, .int v, x2] (.int v :: st) σ ρ g τ Q := aw_lc m41 d41_12 rfl rfl rfl
theorem d41_13 : decode cX3_owedInAll 13 = .ok (.aload_n 0, 1) := by decide +kernel
theorem s41_13 {d : Nat} {st : List Value} {σ : am_I} {ρ : am_R} {g : am_J} {τ : am_T} {Q : am_Q} {x1 x2 : Value} {v : Nat} : AW d 41 13 [.ref v, x1, x2] (st) σ ρ g τ Q = AW d 41 14 [.ref v, x1, x2] (.ref v :: st) σ ρ g τ Q := aw_lc m41 d41_13 rfl rfl rfl
theorem d41_14 : decode cX3_owedInAll 14 = .ok (.getfield 39, 3) := by decide +kernel
theorem s41_14 {d : Nat} {st : List Value} {σ : am_I} {ρ : am_R} {g : am_J} {τ : am_T} {Q : am_Q} {x0 x1 x2 : Value} {a : Nat} (ht : τ.1 a = 3) : AW d 41 14 [x0, x1, x2] (.ref a :: st) σ ρ g τ Q = AW d 41 17 [x0, x1, x2] (va_rf (ρ a 7) :: st) σ ρ g τ Q := aw_gr m41 d41_14 rfl rfl rfl ht
theorem d41_17 : decode cX3_owedInAll 17 = .ok (.iload_n 2, 1) := by decide +kernel
theorem s41_17 {d : Nat} {st : List Value} {σ : am_I} {ρ : am_R} {g : am_J} {τ : am_T} {Q : am_Q} {x0 x1 : Value} {v : Int32} : AW d 41 17 [x0, x1, .int v] (st) σ ρ g τ Q = AW d 41 18 [x0, x1, .int v] (.int v :: st) σ ρ g τ Q := aw_lc m41 d41_17 rfl rfl rfl
theorem d41_18 : decode cX3_owedInAll 18 = .ok (.aaload, 1) := by decide +kernel
theorem s41_18 {d : Nat} {st : List Value} {σ : am_I} {ρ : am_R} {g : am_J} {τ : am_T} {Q : am_Q} {x0 x1 x2 : Value} {a : Nat} {j : Int32} (ht : 18 ≤ τ.1 a ∧ τ.1 a ≤ 22) (hj : am_inb j (τ.2.1 a) = true) : AW d 41 18 [x0, x1, x2] (.int j :: .ref a :: st) σ ρ g τ Q = AW d 41 19 [x0, x1, x2] (va_rf (ρ a j.toNatClampNeg) :: st) σ ρ g τ Q := aw_aal m41 d41_18 rfl ht hj
theorem d41_19 : decode cX3_owedInAll 19 = .ok (.getfield 188, 3) := by decide +kernel
theorem s41_19 {d : Nat} {st : List Value} {σ : am_I} {ρ : am_R} {g : am_J} {τ : am_T} {Q : am_Q} {x0 x1 x2 : Value} {a : Nat} (ht : τ.1 a = 1) : AW d 41 19 [x0, x1, x2] (.ref a :: st) σ ρ g τ Q = AW d 41 22 [x0, x1, x2] (.int (σ a 6) :: st) σ ρ g τ Q := aw_gi m41 d41_19 rfl rfl rfl ht
theorem d41_22 : decode cX3_owedInAll 22 = .ok (.iadd, 1) := by decide +kernel
theorem s41_22 {d : Nat} {st : List Value} {σ : am_I} {ρ : am_R} {g : am_J} {τ : am_T} {Q : am_Q} {x0 x1 x2 : Value} {v w : Int32} : AW d 41 22 [x0, x1, x2] (.int w :: .int v :: st) σ ρ g τ Q = AW d 41 23 [x0, x1, x2] (.int (v + w) :: st) σ ρ g τ Q := aw_lc m41 d41_22 rfl rfl rfl
theorem d41_23 : decode cX3_owedInAll 23 = .ok (.istore_n 1, 1) := by decide +kernel
theorem s41_23r {d : Nat} {st : List Value} {σ : am_I} {ρ : am_R} {g : am_J} {τ : am_T} {Q : am_Q} {x1 x2 : Value} {v : Int32} {u : Nat} : AW d 41 23 [.ref u, x1, x2] (.int v :: st) σ ρ g τ Q = AW d 41 24 [.ref u, .int v, x2] (st) σ ρ g τ Q := aw_lc m41 d41_23 rfl rfl rfl
theorem d41_24 : decode cX3_owedInAll 24 = .ok (.iinc 2 1, 3) := by decide +kernel
theorem s41_24 {d : Nat} {st : List Value} {σ : am_I} {ρ : am_R} {g : am_J} {τ : am_T} {Q : am_Q} {x0 : Value} {v : Int32} {u : Int32} : AW d 41 24 [x0, .int u, .int v] (st) σ ρ g τ Q = AW d 41 27 [x0, .int u, .int (v + 1)] (st) σ ρ g τ Q := aw_lc m41 d41_24 rfl rfl rfl
theorem d41_27 : decode cX3_owedInAll 27 = .ok (.goto (-23), 3) := by decide +kernel
theorem s41_27 {d : Nat} {st : List Value} {σ : am_I} {ρ : am_R} {g : am_J} {τ : am_T} {Q : am_Q} {x0 x1 x2 : Value} : AW d 41 27 [x0, x1, x2] (st) σ ρ g τ Q = AW d 41 4 [x0, x1, x2] (st) σ ρ g τ Q := aw_lc m41 d41_27 rfl rfl rfl
theorem d41_30 : decode cX3_owedInAll 30 = .ok (.iload_n 1, 1) := by decide +kernel
theorem s41_30 {d : Nat} {st : List Value} {σ : am_I} {ρ : am_R} {g : am_J} {τ : am_T} {Q : am_Q} {x0 x2 : Value} {v : Int32} : AW d 41 30 [x0, .int v, x2] (st) σ ρ g τ Q = AW d 41 31 [x0, .int v, x2] (.int v :: st) σ ρ g τ Q := aw_lc m41 d41_30 rfl rfl rfl
theorem d41_31 : decode cX3_owedInAll 31 = .ok (.ireturn, 1) := by decide +kernel
theorem s41_31 {d : Nat} {σ : am_I} {ρ : am_R} {g : am_J} {τ : am_T} {Q : am_Q} {x0 x1 x2 : Value} {v : Int32} : AW d 41 31 [x0, x1, x2] ([.int v]) σ ρ g τ Q = Q (some (.int v)) σ ρ g τ := aw_ri m41 d41_31 rfl
