/-! step rows: methods 76 to 98 -/
theorem d76_0 : decode cX10_init 0 = .ok (.aload_n 0, 1) := by decide +kernel
theorem s76_0 {d : Nat} {st : List Value} {σ : am_I} {ρ : am_R} {g : am_J} {τ : am_T} {Q : am_Q} {v : Nat} : AW d 76 0 [.ref v] (st) σ ρ g τ Q = AW d 76 1 [.ref v] (.ref v :: st) σ ρ g τ Q := aw_lc m76 d76_0 rfl rfl rfl
theorem s76_0n {d : Nat} {st : List Value} {σ : am_I} {ρ : am_R} {g : am_J} {τ : am_T} {Q : am_Q} : AW d 76 0 [.null] (st) σ ρ g τ Q = AW d 76 1 [.null] (.null :: st) σ ρ g τ Q := aw_lc m76 d76_0 rfl rfl rfl
theorem d76_1 : decode cX10_init 1 = .ok (.invokespecial 3, 3) := by decide +kernel
theorem s76_1 {d : Nat} {st : List Value} {σ : am_I} {ρ : am_R} {g : am_J} {τ : am_T} {Q : am_Q} {x0 : Value} {a : Nat} (hs : st.length ≤ 4) : AW d 76 1 [x0] (.ref a :: st) σ ρ g τ Q = AW d 76 4 [x0] (st) σ ρ g τ Q := aw_oin m76 d76_1 rfl rfl hs
theorem d76_4 : decode cX10_init 4 = .ok (.aload_n 0, 1) := by decide +kernel
theorem s76_4 {d : Nat} {st : List Value} {σ : am_I} {ρ : am_R} {g : am_J} {τ : am_T} {Q : am_Q} {v : Nat} : AW d 76 4 [.ref v] (st) σ ρ g τ Q = AW d 76 5 [.ref v] (.ref v :: st) σ ρ g τ Q := aw_lc m76 d76_4 rfl rfl rfl
theorem s76_4n {d : Nat} {st : List Value} {σ : am_I} {ρ : am_R} {g : am_J} {τ : am_T} {Q : am_Q} : AW d 76 4 [.null] (st) σ ρ g τ Q = AW d 76 5 [.null] (.null :: st) σ ρ g τ Q := aw_lc m76 d76_4 rfl rfl rfl
theorem d76_5 : decode cX10_init 5 = .ok (.sipush 240, 3) := by decide +kernel
theorem s76_5 {d : Nat} {st : List Value} {σ : am_I} {ρ : am_R} {g : am_J} {τ : am_T} {Q : am_Q} {x0 : Value} : AW d 76 5 [x0] (st) σ ρ g τ Q = AW d 76 8 [x0] (.int 240 :: st) σ ρ g τ Q := aw_lc m76 d76_5 rfl rfl rfl
theorem d76_8 : decode cX10_init 8 = .ok (.newarray .byte, 2) := by decide +kernel
theorem s76_8 {d : Nat} {st : List Value} {σ : am_I} {ρ : am_R} {g : am_J} {τ : am_T} {Q : am_Q} {x0 : Value} {j : Int32} (hj : ¬ j < 0 ∧ j.toNatClampNeg ≤ 10000) : AW d 76 8 [x0] (.int j :: st) σ ρ g τ Q = AW d 76 10 [x0] (.ref τ.2.2.1 :: st) (am_new 14 j.toNatClampNeg σ ρ g τ).1 (am_new 14 j.toNatClampNeg σ ρ g τ).2.1 (am_new 14 j.toNatClampNeg σ ρ g τ).2.2.1 (am_new 14 j.toNatClampNeg σ ρ g τ).2.2.2 Q := aw_nwa m76 d76_8 rfl rfl (by decide) hj
theorem d76_10 : decode cX10_init 10 = .ok (.putfield 9, 3) := by decide +kernel
theorem s76_10 {d : Nat} {st : List Value} {σ : am_I} {ρ : am_R} {g : am_J} {τ : am_T} {Q : am_Q} {x0 : Value} {a b : Nat} (ht : τ.1 a = 10) : AW d 76 10 [x0] (.ref b :: .ref a :: st) σ ρ g τ Q = AW d 76 13 [x0] (st) σ (am_u ρ a 0 (some b)) g τ Q := aw_pr m76 d76_10 rfl rfl (Or.inr ⟨rfl, rfl⟩) rfl ht
theorem s76_10n {d : Nat} {st : List Value} {σ : am_I} {ρ : am_R} {g : am_J} {τ : am_T} {Q : am_Q} {x0 : Value} {a : Nat} (ht : τ.1 a = 10) : AW d 76 10 [x0] (.null :: .ref a :: st) σ ρ g τ Q = AW d 76 13 [x0] (st) σ (am_u ρ a 0 none) g τ Q := aw_pn m76 d76_10 rfl rfl (Or.inr ⟨rfl, rfl⟩) rfl ht
theorem d76_13 : decode cX10_init 13 = .ok (.aload_n 0, 1) := by decide +kernel
theorem s76_13 {d : Nat} {st : List Value} {σ : am_I} {ρ : am_R} {g : am_J} {τ : am_T} {Q : am_Q} {v : Nat} : AW d 76 13 [.ref v] (st) σ ρ g τ Q = AW d 76 14 [.ref v] (.ref v :: st) σ ρ g τ Q := aw_lc m76 d76_13 rfl rfl rfl
theorem s76_13n {d : Nat} {st : List Value} {σ : am_I} {ρ : am_R} {g : am_J} {τ : am_T} {Q : am_Q} : AW d 76 13 [.null] (st) σ ρ g τ Q = AW d 76 14 [.null] (.null :: st) σ ρ g τ Q := aw_lc m76 d76_13 rfl rfl rfl
theorem d76_14 : decode cX10_init 14 = .ok (.iconst 0, 1) := by decide +kernel
theorem s76_14 {d : Nat} {st : List Value} {σ : am_I} {ρ : am_R} {g : am_J} {τ : am_T} {Q : am_Q} {x0 : Value} : AW d 76 14 [x0] (st) σ ρ g τ Q = AW d 76 15 [x0] (.int 0 :: st) σ ρ g τ Q := aw_lc m76 d76_14 rfl rfl rfl
theorem d76_15 : decode cX10_init 15 = .ok (.putfield 15, 3) := by decide +kernel
theorem s76_15 {d : Nat} {st : List Value} {σ : am_I} {ρ : am_R} {g : am_J} {τ : am_T} {Q : am_Q} {x0 : Value} {a : Nat} {v : Int32} (ht : τ.1 a = 10) : AW d 76 15 [x0] (.int v :: .ref a :: st) σ ρ g τ Q = AW d 76 18 [x0] (st) (am_u σ a 1 v) ρ g τ Q := aw_pi m76 d76_15 rfl rfl (Or.inl rfl) rfl ht
theorem d76_18 : decode cX10_init 18 = .ok (.aload_n 0, 1) := by decide +kernel
theorem s76_18 {d : Nat} {st : List Value} {σ : am_I} {ρ : am_R} {g : am_J} {τ : am_T} {Q : am_Q} {v : Nat} : AW d 76 18 [.ref v] (st) σ ρ g τ Q = AW d 76 19 [.ref v] (.ref v :: st) σ ρ g τ Q := aw_lc m76 d76_18 rfl rfl rfl
theorem s76_18n {d : Nat} {st : List Value} {σ : am_I} {ρ : am_R} {g : am_J} {τ : am_T} {Q : am_Q} : AW d 76 18 [.null] (st) σ ρ g τ Q = AW d 76 19 [.null] (.null :: st) σ ρ g τ Q := aw_lc m76 d76_18 rfl rfl rfl
theorem d76_19 : decode cX10_init 19 = .ok (.iconst 0, 1) := by decide +kernel
theorem s76_19 {d : Nat} {st : List Value} {σ : am_I} {ρ : am_R} {g : am_J} {τ : am_T} {Q : am_Q} {x0 : Value} : AW d 76 19 [x0] (st) σ ρ g τ Q = AW d 76 20 [x0] (.int 0 :: st) σ ρ g τ Q := aw_lc m76 d76_19 rfl rfl rfl
theorem d76_20 : decode cX10_init 20 = .ok (.putfield 19, 3) := by decide +kernel
theorem s76_20 {d : Nat} {st : List Value} {σ : am_I} {ρ : am_R} {g : am_J} {τ : am_T} {Q : am_Q} {x0 : Value} {a : Nat} {v : Int32} (ht : τ.1 a = 10) : AW d 76 20 [x0] (.int v :: .ref a :: st) σ ρ g τ Q = AW d 76 23 [x0] (st) (am_u σ a 2 v) ρ g τ Q := aw_pi m76 d76_20 rfl rfl (Or.inl rfl) rfl ht
theorem d76_23 : decode cX10_init 23 = .ok (.aload_n 0, 1) := by decide +kernel
theorem s76_23 {d : Nat} {st : List Value} {σ : am_I} {ρ : am_R} {g : am_J} {τ : am_T} {Q : am_Q} {v : Nat} : AW d 76 23 [.ref v] (st) σ ρ g τ Q = AW d 76 24 [.ref v] (.ref v :: st) σ ρ g τ Q := aw_lc m76 d76_23 rfl rfl rfl
theorem s76_23n {d : Nat} {st : List Value} {σ : am_I} {ρ : am_R} {g : am_J} {τ : am_T} {Q : am_Q} : AW d 76 23 [.null] (st) σ ρ g τ Q = AW d 76 24 [.null] (.null :: st) σ ρ g τ Q := aw_lc m76 d76_23 rfl rfl rfl
theorem d76_24 : decode cX10_init 24 = .ok (.iconst 0, 1) := by decide +kernel
theorem s76_24 {d : Nat} {st : List Value} {σ : am_I} {ρ : am_R} {g : am_J} {τ : am_T} {Q : am_Q} {x0 : Value} : AW d 76 24 [x0] (st) σ ρ g τ Q = AW d 76 25 [x0] (.int 0 :: st) σ ρ g τ Q := aw_lc m76 d76_24 rfl rfl rfl
theorem d76_25 : decode cX10_init 25 = .ok (.putfield 22, 3) := by decide +kernel
theorem s76_25 {d : Nat} {st : List Value} {σ : am_I} {ρ : am_R} {g : am_J} {τ : am_T} {Q : am_Q} {x0 : Value} {a : Nat} {v : Int32} (ht : τ.1 a = 10) : AW d 76 25 [x0] (.int v :: .ref a :: st) σ ρ g τ Q = AW d 76 28 [x0] (st) (am_u σ a 3 v) ρ g τ Q := aw_pi m76 d76_25 rfl rfl (Or.inl rfl) rfl ht
theorem d76_28 : decode cX10_init 28 = .ok (.aload_n 0, 1) := by decide +kernel
theorem s76_28 {d : Nat} {st : List Value} {σ : am_I} {ρ : am_R} {g : am_J} {τ : am_T} {Q : am_Q} {v : Nat} : AW d 76 28 [.ref v] (st) σ ρ g τ Q = AW d 76 29 [.ref v] (.ref v :: st) σ ρ g τ Q := aw_lc m76 d76_28 rfl rfl rfl
theorem s76_28n {d : Nat} {st : List Value} {σ : am_I} {ρ : am_R} {g : am_J} {τ : am_T} {Q : am_Q} : AW d 76 28 [.null] (st) σ ρ g τ Q = AW d 76 29 [.null] (.null :: st) σ ρ g τ Q := aw_lc m76 d76_28 rfl rfl rfl
theorem d76_29 : decode cX10_init 29 = .ok (.iconst 0, 1) := by decide +kernel
theorem s76_29 {d : Nat} {st : List Value} {σ : am_I} {ρ : am_R} {g : am_J} {τ : am_T} {Q : am_Q} {x0 : Value} : AW d 76 29 [x0] (st) σ ρ g τ Q = AW d 76 30 [x0] (.int 0 :: st) σ ρ g τ Q := aw_lc m76 d76_29 rfl rfl rfl
theorem d76_30 : decode cX10_init 30 = .ok (.putfield 25, 3) := by decide +kernel
theorem s76_30 {d : Nat} {st : List Value} {σ : am_I} {ρ : am_R} {g : am_J} {τ : am_T} {Q : am_Q} {x0 : Value} {a : Nat} {v : Int32} (ht : τ.1 a = 10) : AW d 76 30 [x0] (.int v :: .ref a :: st) σ ρ g τ Q = AW d 76 33 [x0] (st) (am_u σ a 4 v) ρ g τ Q := aw_pi m76 d76_30 rfl rfl (Or.inl rfl) rfl ht
theorem d76_33 : decode cX10_init 33 = .ok (.aload_n 0, 1) := by decide +kernel
theorem s76_33 {d : Nat} {st : List Value} {σ : am_I} {ρ : am_R} {g : am_J} {τ : am_T} {Q : am_Q} {v : Nat} : AW d 76 33 [.ref v] (st) σ ρ g τ Q = AW d 76 34 [.ref v] (.ref v :: st) σ ρ g τ Q := aw_lc m76 d76_33 rfl rfl rfl
theorem s76_33n {d : Nat} {st : List Value} {σ : am_I} {ρ : am_R} {g : am_J} {τ : am_T} {Q : am_Q} : AW d 76 33 [.null] (st) σ ρ g τ Q = AW d 76 34 [.null] (.null :: st) σ ρ g τ Q := aw_lc m76 d76_33 rfl rfl rfl
theorem d76_34 : decode cX10_init 34 = .ok (.iconst 0, 1) := by decide +kernel
theorem s76_34 {d : Nat} {st : List Value} {σ : am_I} {ρ : am_R} {g : am_J} {τ : am_T} {Q : am_Q} {x0 : Value} : AW d 76 34 [x0] (st) σ ρ g τ Q = AW d 76 35 [x0] (.int 0 :: st) σ ρ g τ Q := aw_lc m76 d76_34 rfl rfl rfl
theorem d76_35 : decode cX10_init 35 = .ok (.putfield 28, 3) := by decide +kernel
theorem s76_35 {d : Nat} {st : List Value} {σ : am_I} {ρ : am_R} {g : am_J} {τ : am_T} {Q : am_Q} {x0 : Value} {a : Nat} {v : Int32} (ht : τ.1 a = 10) : AW d 76 35 [x0] (.int v :: .ref a :: st) σ ρ g τ Q = AW d 76 38 [x0] (st) (am_u σ a 5 v) ρ g τ Q := aw_pi m76 d76_35 rfl rfl (Or.inl rfl) rfl ht
theorem d76_38 : decode cX10_init 38 = .ok (.aload_n 0, 1) := by decide +kernel
theorem s76_38 {d : Nat} {st : List Value} {σ : am_I} {ρ : am_R} {g : am_J} {τ : am_T} {Q : am_Q} {v : Nat} : AW d 76 38 [.ref v] (st) σ ρ g τ Q = AW d 76 39 [.ref v] (.ref v :: st) σ ρ g τ Q := aw_lc m76 d76_38 rfl rfl rfl
theorem s76_38n {d : Nat} {st : List Value} {σ : am_I} {ρ : am_R} {g : am_J} {τ : am_T} {Q : am_Q} : AW d 76 38 [.null] (st) σ ρ g τ Q = AW d 76 39 [.null] (.null :: st) σ ρ g τ Q := aw_lc m76 d76_38 rfl rfl rfl
theorem d76_39 : decode cX10_init 39 = .ok (.sipush 240, 3) := by decide +kernel
theorem s76_39 {d : Nat} {st : List Value} {σ : am_I} {ρ : am_R} {g : am_J} {τ : am_T} {Q : am_Q} {x0 : Value} : AW d 76 39 [x0] (st) σ ρ g τ Q = AW d 76 42 [x0] (.int 240 :: st) σ ρ g τ Q := aw_lc m76 d76_39 rfl rfl rfl
theorem d76_42 : decode cX10_init 42 = .ok (.newarray .int, 2) := by decide +kernel
theorem s76_42 {d : Nat} {st : List Value} {σ : am_I} {ρ : am_R} {g : am_J} {τ : am_T} {Q : am_Q} {x0 : Value} {j : Int32} (hj : ¬ j < 0 ∧ j.toNatClampNeg ≤ 10000) : AW d 76 42 [x0] (.int j :: st) σ ρ g τ Q = AW d 76 44 [x0] (.ref τ.2.2.1 :: st) (am_new 15 j.toNatClampNeg σ ρ g τ).1 (am_new 15 j.toNatClampNeg σ ρ g τ).2.1 (am_new 15 j.toNatClampNeg σ ρ g τ).2.2.1 (am_new 15 j.toNatClampNeg σ ρ g τ).2.2.2 Q := aw_nwa m76 d76_42 rfl rfl (by decide) hj
theorem d76_44 : decode cX10_init 44 = .ok (.putfield 31, 3) := by decide +kernel
theorem s76_44 {d : Nat} {st : List Value} {σ : am_I} {ρ : am_R} {g : am_J} {τ : am_T} {Q : am_Q} {x0 : Value} {a b : Nat} (ht : τ.1 a = 10) : AW d 76 44 [x0] (.ref b :: .ref a :: st) σ ρ g τ Q = AW d 76 47 [x0] (st) σ (am_u ρ a 6 (some b)) g τ Q := aw_pr m76 d76_44 rfl rfl (Or.inr ⟨rfl, rfl⟩) rfl ht
theorem s76_44n {d : Nat} {st : List Value} {σ : am_I} {ρ : am_R} {g : am_J} {τ : am_T} {Q : am_Q} {x0 : Value} {a : Nat} (ht : τ.1 a = 10) : AW d 76 44 [x0] (.null :: .ref a :: st) σ ρ g τ Q = AW d 76 47 [x0] (st) σ (am_u ρ a 6 none) g τ Q := aw_pn m76 d76_44 rfl rfl (Or.inr ⟨rfl, rfl⟩) rfl ht
theorem d76_47 : decode cX10_init 47 = .ok (.aload_n 0, 1) := by decide +kernel
theorem s76_47 {d : Nat} {st : List Value} {σ : am_I} {ρ : am_R} {g : am_J} {τ : am_T} {Q : am_Q} {v : Nat} : AW d 76 47 [.ref v] (st) σ ρ g τ Q = AW d 76 48 [.ref v] (.ref v :: st) σ ρ g τ Q := aw_lc m76 d76_47 rfl rfl rfl
theorem s76_47n {d : Nat} {st : List Value} {σ : am_I} {ρ : am_R} {g : am_J} {τ : am_T} {Q : am_Q} : AW d 76 47 [.null] (st) σ ρ g τ Q = AW d 76 48 [.null] (.null :: st) σ ρ g τ Q := aw_lc m76 d76_47 rfl rfl rfl
theorem d76_48 : decode cX10_init 48 = .ok (.iconst 0, 1) := by decide +kernel
theorem s76_48 {d : Nat} {st : List Value} {σ : am_I} {ρ : am_R} {g : am_J} {τ : am_T} {Q : am_Q} {x0 : Value} : AW d 76 48 [x0] (st) σ ρ g τ Q = AW d 76 49 [x0] (.int 0 :: st) σ ρ g τ Q := aw_lc m76 d76_48 rfl rfl rfl
theorem d76_49 : decode cX10_init 49 = .ok (.putfield 35, 3) := by decide +kernel
theorem s76_49 {d : Nat} {st : List Value} {σ : am_I} {ρ : am_R} {g : am_J} {τ : am_T} {Q : am_Q} {x0 : Value} {a : Nat} {v : Int32} (ht : τ.1 a = 10) : AW d 76 49 [x0] (.int v :: .ref a :: st) σ ρ g τ Q = AW d 76 52 [x0] (st) (am_u σ a 7 v) ρ g τ Q := aw_pi m76 d76_49 rfl rfl (Or.inl rfl) rfl ht
theorem d76_52 : decode cX10_init 52 = .ok (.aload_n 0, 1) := by decide +kernel
theorem s76_52 {d : Nat} {st : List Value} {σ : am_I} {ρ : am_R} {g : am_J} {τ : am_T} {Q : am_Q} {v : Nat} : AW d 76 52 [.ref v] (st) σ ρ g τ Q = AW d 76 53 [.ref v] (.ref v :: st) σ ρ g τ Q := aw_lc m76 d76_52 rfl rfl rfl
theorem s76_52n {d : Nat} {st : List Value} {σ : am_I} {ρ : am_R} {g : am_J} {τ : am_T} {Q : am_Q} : AW d 76 52 [.null] (st) σ ρ g τ Q = AW d 76 53 [.null] (.null :: st) σ ρ g τ Q := aw_lc m76 d76_52 rfl rfl rfl
theorem d76_53 : decode cX10_init 53 = .ok (.bipush 10, 2) := by decide +kernel
theorem s76_53 {d : Nat} {st : List Value} {σ : am_I} {ρ : am_R} {g : am_J} {τ : am_T} {Q : am_Q} {x0 : Value} : AW d 76 53 [x0] (st) σ ρ g τ Q = AW d 76 55 [x0] (.int 10 :: st) σ ρ g τ Q := aw_lc m76 d76_53 rfl rfl rfl
theorem d76_55 : decode cX10_init 55 = .ok (.anewarray 38, 3) := by decide +kernel
theorem s76_55 {d : Nat} {st : List Value} {σ : am_I} {ρ : am_R} {g : am_J} {τ : am_T} {Q : am_Q} {x0 : Value} {j : Int32} (hj : ¬ j < 0 ∧ j.toNatClampNeg ≤ 10000) : AW d 76 55 [x0] (.int j :: st) σ ρ g τ Q = AW d 76 58 [x0] (.ref τ.2.2.1 :: st) (am_new 19 j.toNatClampNeg σ ρ g τ).1 (am_new 19 j.toNatClampNeg σ ρ g τ).2.1 (am_new 19 j.toNatClampNeg σ ρ g τ).2.2.1 (am_new 19 j.toNatClampNeg σ ρ g τ).2.2.2 Q := aw_ana m76 d76_55 rfl rfl rfl (by decide) hj
theorem d76_58 : decode cX10_init 58 = .ok (.putfield 40, 3) := by decide +kernel
theorem s76_58 {d : Nat} {st : List Value} {σ : am_I} {ρ : am_R} {g : am_J} {τ : am_T} {Q : am_Q} {x0 : Value} {a b : Nat} (ht : τ.1 a = 10) : AW d 76 58 [x0] (.ref b :: .ref a :: st) σ ρ g τ Q = AW d 76 61 [x0] (st) σ (am_u ρ a 8 (some b)) g τ Q := aw_pr m76 d76_58 rfl rfl (Or.inr ⟨rfl, rfl⟩) rfl ht
theorem s76_58n {d : Nat} {st : List Value} {σ : am_I} {ρ : am_R} {g : am_J} {τ : am_T} {Q : am_Q} {x0 : Value} {a : Nat} (ht : τ.1 a = 10) : AW d 76 58 [x0] (.null :: .ref a :: st) σ ρ g τ Q = AW d 76 61 [x0] (st) σ (am_u ρ a 8 none) g τ Q := aw_pn m76 d76_58 rfl rfl (Or.inr ⟨rfl, rfl⟩) rfl ht
theorem d76_61 : decode cX10_init 61 = .ok (.aload_n 0, 1) := by decide +kernel
theorem s76_61 {d : Nat} {st : List Value} {σ : am_I} {ρ : am_R} {g : am_J} {τ : am_T} {Q : am_Q} {v : Nat} : AW d 76 61 [.ref v] (st) σ ρ g τ Q = AW d 76 62 [.ref v] (.ref v :: st) σ ρ g τ Q := aw_lc m76 d76_61 rfl rfl rfl
theorem s76_61n {d : Nat} {st : List Value} {σ : am_I} {ρ : am_R} {g : am_J} {τ : am_T} {Q : am_Q} : AW d 76 61 [.null] (st) σ ρ g τ Q = AW d 76 62 [.null] (.null :: st) σ ρ g τ Q := aw_lc m76 d76_61 rfl rfl rfl
theorem d76_62 : decode cX10_init 62 = .ok (.iconst 0, 1) := by decide +kernel
theorem s76_62 {d : Nat} {st : List Value} {σ : am_I} {ρ : am_R} {g : am_J} {τ : am_T} {Q : am_Q} {x0 : Value} : AW d 76 62 [x0] (st) σ ρ g τ Q = AW d 76 63 [x0] (.int 0 :: st) σ ρ g τ Q := aw_lc m76 d76_62 rfl rfl rfl
theorem d76_63 : decode cX10_init 63 = .ok (.putfield 44, 3) := by decide +kernel
theorem s76_63 {d : Nat} {st : List Value} {σ : am_I} {ρ : am_R} {g : am_J} {τ : am_T} {Q : am_Q} {x0 : Value} {a : Nat} {v : Int32} (ht : τ.1 a = 10) : AW d 76 63 [x0] (.int v :: .ref a :: st) σ ρ g τ Q = AW d 76 66 [x0] (st) (am_u σ a 9 v) ρ g τ Q := aw_pi m76 d76_63 rfl rfl (Or.inl rfl) rfl ht
theorem d76_66 : decode cX10_init 66 = .ok (.return_, 1) := by decide +kernel
theorem s76_66 {d : Nat} {σ : am_I} {ρ : am_R} {g : am_J} {τ : am_T} {Q : am_Q} {x0 : Value} : AW d 76 66 [x0] ([]) σ ρ g τ Q = Q none σ ρ g τ := aw_rv m76 d76_66 rfl
theorem d77_0 : decode cX10_append 0 = .ok (.aload_n 0, 1) := by decide +kernel
theorem s77_0 {d : Nat} {st : List Value} {σ : am_I} {ρ : am_R} {g : am_J} {τ : am_T} {Q : am_Q} {x1 : Value} {v : Nat} : AW d 77 0 [.ref v, x1] (st) σ ρ g τ Q = AW d 77 1 [.ref v, x1] (.ref v :: st) σ ρ g τ Q := aw_lc m77 d77_0 rfl rfl rfl
theorem d77_1 : decode cX10_append 1 = .ok (.getfield 15, 3) := by decide +kernel
theorem s77_1 {d : Nat} {st : List Value} {σ : am_I} {ρ : am_R} {g : am_J} {τ : am_T} {Q : am_Q} {x0 x1 : Value} {a : Nat} (ht : τ.1 a = 10) : AW d 77 1 [x0, x1] (.ref a :: st) σ ρ g τ Q = AW d 77 4 [x0, x1] (.int (σ a 1) :: st) σ ρ g τ Q := aw_gi m77 d77_1 rfl rfl rfl ht
theorem d77_4 : decode cX10_append 4 = .ok (.sipush 240, 3) := by decide +kernel
theorem s77_4 {d : Nat} {st : List Value} {σ : am_I} {ρ : am_R} {g : am_J} {τ : am_T} {Q : am_Q} {x0 x1 : Value} : AW d 77 4 [x0, x1] (st) σ ρ g τ Q = AW d 77 7 [x0, x1] (.int 240 :: st) σ ρ g τ Q := aw_lc m77 d77_4 rfl rfl rfl
theorem d77_7 : decode cX10_append 7 = .ok (.if_icmp .ge 23, 3) := by decide +kernel
theorem s77_7 {d : Nat} {st : List Value} {σ : am_I} {ρ : am_R} {g : am_J} {τ : am_T} {Q : am_Q} {x0 x1 : Value} {v w : Int32} : AW d 77 7 [x0, x1] (.int w :: .int v :: st) σ ρ g τ Q = if w ≤ v then AW d 77 30 [x0, x1] (st) σ ρ g τ Q else AW d 77 10 [x0, x1] (st) σ ρ g τ Q := aw_br m77 d77_7 rfl rfl rfl
theorem d77_10 : decode cX10_append 10 = .ok (.aload_n 0, 1) := by decide +kernel
theorem s77_10 {d : Nat} {st : List Value} {σ : am_I} {ρ : am_R} {g : am_J} {τ : am_T} {Q : am_Q} {x1 : Value} {v : Nat} : AW d 77 10 [.ref v, x1] (st) σ ρ g τ Q = AW d 77 11 [.ref v, x1] (.ref v :: st) σ ρ g τ Q := aw_lc m77 d77_10 rfl rfl rfl
theorem d77_11 : decode cX10_append 11 = .ok (.getfield 9, 3) := by decide +kernel
theorem s77_11 {d : Nat} {st : List Value} {σ : am_I} {ρ : am_R} {g : am_J} {τ : am_T} {Q : am_Q} {x0 x1 : Value} {a : Nat} (ht : τ.1 a = 10) : AW d 77 11 [x0, x1] (.ref a :: st) σ ρ g τ Q = AW d 77 14 [x0, x1] (va_rf (ρ a 0) :: st) σ ρ g τ Q := aw_gr m77 d77_11 rfl rfl rfl ht
theorem d77_14 : decode cX10_append 14 = .ok (.aload_n 0, 1) := by decide +kernel
theorem s77_14 {d : Nat} {st : List Value} {σ : am_I} {ρ : am_R} {g : am_J} {τ : am_T} {Q : am_Q} {x1 : Value} {v : Nat} : AW d 77 14 [.ref v, x1] (st) σ ρ g τ Q = AW d 77 15 [.ref v, x1] (.ref v :: st) σ ρ g τ Q := aw_lc m77 d77_14 rfl rfl rfl
theorem d77_15 : decode cX10_append 15 = .ok (.getfield 15, 3) := by decide +kernel
theorem s77_15 {d : Nat} {st : List Value} {σ : am_I} {ρ : am_R} {g : am_J} {τ : am_T} {Q : am_Q} {x0 x1 : Value} {a : Nat} (ht : τ.1 a = 10) : AW d 77 15 [x0, x1] (.ref a :: st) σ ρ g τ Q = AW d 77 18 [x0, x1] (.int (σ a 1) :: st) σ ρ g τ Q := aw_gi m77 d77_15 rfl rfl rfl ht
theorem d77_18 : decode cX10_append 18 = .ok (.iload_n 1, 1) := by decide +kernel
theorem s77_18 {d : Nat} {st : List Value} {σ : am_I} {ρ : am_R} {g : am_J} {τ : am_T} {Q : am_Q} {x0 : Value} {v : Int32} : AW d 77 18 [x0, .int v] (st) σ ρ g τ Q = AW d 77 19 [x0, .int v] (.int v :: st) σ ρ g τ Q := aw_lc m77 d77_18 rfl rfl rfl
theorem d77_19 : decode cX10_append 19 = .ok (.bastore, 1) := by decide +kernel
theorem s77_19 {d : Nat} {st : List Value} {σ : am_I} {ρ : am_R} {g : am_J} {τ : am_T} {Q : am_Q} {x0 x1 : Value} {a : Nat} {j v : Int32} (ht : τ.1 a = 17) (ha : a < am_BG) (hj : am_inb j (τ.2.1 a) = true) (hv : am_b01 v = true) : AW d 77 19 [x0, x1] (.int v :: .int j :: .ref a :: st) σ ρ g τ Q = AW d 77 20 [x0, x1] (st) (am_u σ a j.toNatClampNeg v) ρ g τ Q := aw_zas m77 d77_19 rfl ht ha hj hv
theorem s77_19b {d : Nat} {st : List Value} {σ : am_I} {ρ : am_R} {g : am_J} {τ : am_T} {Q : am_Q} {x0 x1 : Value} {a : Nat} {j v : Int32} (ht : τ.1 a = 14) (ha : a < am_BG) (hj : am_inb j (τ.2.1 a) = true) : AW d 77 19 [x0, x1] (.int v :: .int j :: .ref a :: st) σ ρ g τ Q = AW d 77 20 [x0, x1] (st) (am_u σ a j.toNatClampNeg v.toInt8.toInt32) ρ g τ Q := aw_bas m77 d77_19 rfl ht ha hj
theorem d77_20 : decode cX10_append 20 = .ok (.aload_n 0, 1) := by decide +kernel
theorem s77_20 {d : Nat} {st : List Value} {σ : am_I} {ρ : am_R} {g : am_J} {τ : am_T} {Q : am_Q} {x1 : Value} {v : Nat} : AW d 77 20 [.ref v, x1] (st) σ ρ g τ Q = AW d 77 21 [.ref v, x1] (.ref v :: st) σ ρ g τ Q := aw_lc m77 d77_20 rfl rfl rfl
theorem d77_21 : decode cX10_append 21 = .ok (.dup, 1) := by decide +kernel
theorem s77_21 {d : Nat} {st : List Value} {σ : am_I} {ρ : am_R} {g : am_J} {τ : am_T} {Q : am_Q} {x0 x1 : Value} {v : Int32} : AW d 77 21 [x0, x1] (.int v :: st) σ ρ g τ Q = AW d 77 22 [x0, x1] (.int v :: .int v :: st) σ ρ g τ Q := aw_lc m77 d77_21 rfl rfl rfl
theorem s77_21r {d : Nat} {st : List Value} {σ : am_I} {ρ : am_R} {g : am_J} {τ : am_T} {Q : am_Q} {x0 x1 : Value} {v : Nat} : AW d 77 21 [x0, x1] (.ref v :: st) σ ρ g τ Q = AW d 77 22 [x0, x1] (.ref v :: .ref v :: st) σ ρ g τ Q := aw_lc m77 d77_21 rfl rfl rfl
theorem d77_22 : decode cX10_append 22 = .ok (.getfield 15, 3) := by decide +kernel
theorem s77_22 {d : Nat} {st : List Value} {σ : am_I} {ρ : am_R} {g : am_J} {τ : am_T} {Q : am_Q} {x0 x1 : Value} {a : Nat} (ht : τ.1 a = 10) : AW d 77 22 [x0, x1] (.ref a :: st) σ ρ g τ Q = AW d 77 25 [x0, x1] (.int (σ a 1) :: st) σ ρ g τ Q := aw_gi m77 d77_22 rfl rfl rfl ht
theorem d77_25 : decode cX10_append 25 = .ok (.iconst 1, 1) := by decide +kernel
theorem s77_25 {d : Nat} {st : List Value} {σ : am_I} {ρ : am_R} {g : am_J} {τ : am_T} {Q : am_Q} {x0 x1 : Value} : AW d 77 25 [x0, x1] (st) σ ρ g τ Q = AW d 77 26 [x0, x1] (.int 1 :: st) σ ρ g τ Q := aw_lc m77 d77_25 rfl rfl rfl
theorem d77_26 : decode cX10_append 26 = .ok (.iadd, 1) := by decide +kernel
theorem s77_26 {d : Nat} {st : List Value} {σ : am_I} {ρ : am_R} {g : am_J} {τ : am_T} {Q : am_Q} {x0 x1 : Value} {v w : Int32} : AW d 77 26 [x0, x1] (.int w :: .int v :: st) σ ρ g τ Q = AW d 77 27 [x0, x1] (.int (v + w) :: st) σ ρ g τ Q := aw_lc m77 d77_26 rfl rfl rfl
theorem d77_27 : decode cX10_append 27 = .ok (.putfield 15, 3) := by decide +kernel
theorem s77_27 {d : Nat} {st : List Value} {σ : am_I} {ρ : am_R} {g : am_J} {τ : am_T} {Q : am_Q} {x0 x1 : Value} {a : Nat} {v : Int32} (ht : τ.1 a = 10) : AW d 77 27 [x0, x1] (.int v :: .ref a :: st) σ ρ g τ Q = AW d 77 30 [x0, x1] (st) (am_u σ a 1 v) ρ g τ Q := aw_pi m77 d77_27 rfl rfl (Or.inl rfl) rfl ht
theorem d77_30 : decode cX10_append 30 = .ok (.return_, 1) := by decide +kernel
theorem s77_30 {d : Nat} {σ : am_I} {ρ : am_R} {g : am_J} {τ : am_T} {Q : am_Q} {x0 x1 : Value} : AW d 77 30 [x0, x1] ([]) σ ρ g τ Q = Q none σ ρ g τ := aw_rv m77 d77_30 rfl
theorem d78_0 : decode cX10_readText 0 = .ok (.aload_n 0, 1) := by decide +kernel
theorem s78_0 {d : Nat} {st : List Value} {σ : am_I} {ρ : am_R} {g : am_J} {τ : am_T} {Q : am_Q} {x1 : Value} {v : Nat} : AW d 78 0 [.ref v, x1] (st) σ ρ g τ Q = AW d 78 1 [.ref v, x1] (.ref v :: st) σ ρ g τ Q := aw_lc m78 d78_0 rfl rfl rfl
theorem d78_1 : decode cX10_readText 1 = .ok (.iconst 0, 1) := by decide +kernel
theorem s78_1 {d : Nat} {st : List Value} {σ : am_I} {ρ : am_R} {g : am_J} {τ : am_T} {Q : am_Q} {x0 x1 : Value} : AW d 78 1 [x0, x1] (st) σ ρ g τ Q = AW d 78 2 [x0, x1] (.int 0 :: st) σ ρ g τ Q := aw_lc m78 d78_1 rfl rfl rfl
theorem d78_2 : decode cX10_readText 2 = .ok (.putfield 22, 3) := by decide +kernel
theorem s78_2 {d : Nat} {st : List Value} {σ : am_I} {ρ : am_R} {g : am_J} {τ : am_T} {Q : am_Q} {x0 x1 : Value} {a : Nat} {v : Int32} (ht : τ.1 a = 10) : AW d 78 2 [x0, x1] (.int v :: .ref a :: st) σ ρ g τ Q = AW d 78 5 [x0, x1] (st) (am_u σ a 3 v) ρ g τ Q := aw_pi m78 d78_2 rfl rfl (Or.inl rfl) rfl ht
theorem d78_5 : decode cX10_readText 5 = .ok (.aload_n 0, 1) := by decide +kernel
theorem s78_5 {d : Nat} {st : List Value} {σ : am_I} {ρ : am_R} {g : am_J} {τ : am_T} {Q : am_Q} {x1 : Value} {v : Nat} : AW d 78 5 [.ref v, x1] (st) σ ρ g τ Q = AW d 78 6 [.ref v, x1] (.ref v :: st) σ ρ g τ Q := aw_lc m78 d78_5 rfl rfl rfl
theorem d78_6 : decode cX10_readText 6 = .ok (.iconst 0, 1) := by decide +kernel
theorem s78_6 {d : Nat} {st : List Value} {σ : am_I} {ρ : am_R} {g : am_J} {τ : am_T} {Q : am_Q} {x0 x1 : Value} : AW d 78 6 [x0, x1] (st) σ ρ g τ Q = AW d 78 7 [x0, x1] (.int 0 :: st) σ ρ g τ Q := aw_lc m78 d78_6 rfl rfl rfl
theorem d78_7 : decode cX10_readText 7 = .ok (.putfield 44, 3) := by decide +kernel
theorem s78_7 {d : Nat} {st : List Value} {σ : am_I} {ρ : am_R} {g : am_J} {τ : am_T} {Q : am_Q} {x0 x1 : Value} {a : Nat} {v : Int32} (ht : τ.1 a = 10) : AW d 78 7 [x0, x1] (.int v :: .ref a :: st) σ ρ g τ Q = AW d 78 10 [x0, x1] (st) (am_u σ a 9 v) ρ g τ Q := aw_pi m78 d78_7 rfl rfl (Or.inl rfl) rfl ht
theorem d78_10 : decode cX10_readText 10 = .ok (.aload_n 0, 1) := by decide +kernel
theorem s78_10 {d : Nat} {st : List Value} {σ : am_I} {ρ : am_R} {g : am_J} {τ : am_T} {Q : am_Q} {x1 : Value} {v : Nat} : AW d 78 10 [.ref v, x1] (st) σ ρ g τ Q = AW d 78 11 [.ref v, x1] (.ref v :: st) σ ρ g τ Q := aw_lc m78 d78_10 rfl rfl rfl
theorem d78_11 : decode cX10_readText 11 = .ok (.invokevirtual 47, 3) := by decide +kernel
theorem s78_11 {d : Nat} {st : List Value} {σ : am_I} {ρ : am_R} {g : am_J} {τ : am_T} {Q : am_Q} {x0 x1 : Value} {p0 : Nat} (ht : τ.1 p0 = 10) (hs : st.length ≤ 4) : AW (d + 1) 78 11 [x0, x1] (.ref p0 :: st) σ ρ g τ Q = AW d 80 0 [.ref p0, am_jk] [] σ ρ g τ (fun r9 σ ρ g τ => AW (d + 1) 78 14 [x0, x1] (r9.toList ++ st) σ ρ g τ Q) := aw_cv m78 d78_11 rfl m80 rfl rfl (by decide) en80 ok80 rfl ht hs
theorem d78_14 : decode cX10_readText 14 = .ok (.iconst 0, 1) := by decide +kernel
theorem s78_14 {d : Nat} {st : List Value} {σ : am_I} {ρ : am_R} {g : am_J} {τ : am_T} {Q : am_Q} {x0 x1 : Value} : AW d 78 14 [x0, x1] (st) σ ρ g τ Q = AW d 78 15 [x0, x1] (.int 0 :: st) σ ρ g τ Q := aw_lc m78 d78_14 rfl rfl rfl
theorem d78_15 : decode cX10_readText 15 = .ok (.istore_n 1, 1) := by decide +kernel
theorem s78_15r {d : Nat} {st : List Value} {σ : am_I} {ρ : am_R} {g : am_J} {τ : am_T} {Q : am_Q} {x1 : Value} {v : Int32} {u : Nat} : AW d 78 15 [.ref u, x1] (.int v :: st) σ ρ g τ Q = AW d 78 16 [.ref u, .int v] (st) σ ρ g τ Q := aw_lc m78 d78_15 rfl rfl rfl
theorem d78_16 : decode cX10_readText 16 = .ok (.iload_n 1, 1) := by decide +kernel
theorem s78_16 {d : Nat} {st : List Value} {σ : am_I} {ρ : am_R} {g : am_J} {τ : am_T} {Q : am_Q} {x0 : Value} {v : Int32} : AW d 78 16 [x0, .int v] (st) σ ρ g τ Q = AW d 78 17 [x0, .int v] (.int v :: st) σ ρ g τ Q := aw_lc m78 d78_16 rfl rfl rfl
theorem d78_17 : decode cX10_readText 17 = .ok (.bipush 10, 2) := by decide +kernel
theorem s78_17 {d : Nat} {st : List Value} {σ : am_I} {ρ : am_R} {g : am_J} {τ : am_T} {Q : am_Q} {x0 x1 : Value} : AW d 78 17 [x0, x1] (st) σ ρ g τ Q = AW d 78 19 [x0, x1] (.int 10 :: st) σ ρ g τ Q := aw_lc m78 d78_17 rfl rfl rfl
theorem d78_19 : decode cX10_readText 19 = .ok (.if_icmp .ge 25, 3) := by decide +kernel
theorem s78_19 {d : Nat} {st : List Value} {σ : am_I} {ρ : am_R} {g : am_J} {τ : am_T} {Q : am_Q} {x0 x1 : Value} {v w : Int32} : AW d 78 19 [x0, x1] (.int w :: .int v :: st) σ ρ g τ Q = if w ≤ v then AW d 78 44 [x0, x1] (st) σ ρ g τ Q else AW d 78 22 [x0, x1] (st) σ ρ g τ Q := aw_br m78 d78_19 rfl rfl rfl
theorem d78_22 : decode cX10_readText 22 = .ok (.aload_n 0, 1) := by decide +kernel
theorem s78_22 {d : Nat} {st : List Value} {σ : am_I} {ρ : am_R} {g : am_J} {τ : am_T} {Q : am_Q} {x1 : Value} {v : Nat} : AW d 78 22 [.ref v, x1] (st) σ ρ g τ Q = AW d 78 23 [.ref v, x1] (.ref v :: st) σ ρ g τ Q := aw_lc m78 d78_22 rfl rfl rfl
theorem d78_23 : decode cX10_readText 23 = .ok (.getfield 25, 3) := by decide +kernel
theorem s78_23 {d : Nat} {st : List Value} {σ : am_I} {ρ : am_R} {g : am_J} {τ : am_T} {Q : am_Q} {x0 x1 : Value} {a : Nat} (ht : τ.1 a = 10) : AW d 78 23 [x0, x1] (.ref a :: st) σ ρ g τ Q = AW d 78 26 [x0, x1] (.int (σ a 4) :: st) σ ρ g τ Q := aw_gi m78 d78_23 rfl rfl rfl ht
theorem d78_26 : decode cX10_readText 26 = .ok (.ifCond .eq 18, 3) := by decide +kernel
theorem s78_26 {d : Nat} {st : List Value} {σ : am_I} {ρ : am_R} {g : am_J} {τ : am_T} {Q : am_Q} {x0 x1 : Value} {v : Int32} : AW d 78 26 [x0, x1] (.int v :: st) σ ρ g τ Q = if v = 0 then AW d 78 44 [x0, x1] (st) σ ρ g τ Q else AW d 78 29 [x0, x1] (st) σ ρ g τ Q := aw_br m78 d78_26 rfl rfl rfl
theorem d78_29 : decode cX10_readText 29 = .ok (.aload_n 0, 1) := by decide +kernel
theorem s78_29 {d : Nat} {st : List Value} {σ : am_I} {ρ : am_R} {g : am_J} {τ : am_T} {Q : am_Q} {x1 : Value} {v : Nat} : AW d 78 29 [.ref v, x1] (st) σ ρ g τ Q = AW d 78 30 [.ref v, x1] (.ref v :: st) σ ρ g τ Q := aw_lc m78 d78_29 rfl rfl rfl
theorem d78_30 : decode cX10_readText 30 = .ok (.invokevirtual 50, 3) := by decide +kernel
theorem s78_30 {d : Nat} {st : List Value} {σ : am_I} {ρ : am_R} {g : am_J} {τ : am_T} {Q : am_Q} {x0 x1 : Value} {p0 : Nat} (ht : τ.1 p0 = 10) (hs : st.length ≤ 4) : AW (d + 1) 78 30 [x0, x1] (.ref p0 :: st) σ ρ g τ Q = AW d 86 0 [.ref p0, am_jk, am_jk, am_jk, am_jk] [] σ ρ g τ (fun r9 σ ρ g τ => AW (d + 1) 78 33 [x0, x1] (r9.toList ++ st) σ ρ g τ Q) := aw_cv m78 d78_30 rfl m86 rfl rfl (by decide) en86 ok86 rfl ht hs
theorem d78_33 : decode cX10_readText 33 = .ok (.ifCond .ne 5, 3) := by decide +kernel
theorem s78_33 {d : Nat} {st : List Value} {σ : am_I} {ρ : am_R} {g : am_J} {τ : am_T} {Q : am_Q} {x0 x1 : Value} {v : Int32} : AW d 78 33 [x0, x1] (.int v :: st) σ ρ g τ Q = if ¬ v = 0 then AW d 78 38 [x0, x1] (st) σ ρ g τ Q else AW d 78 36 [x0, x1] (st) σ ρ g τ Q := aw_br m78 d78_33 rfl rfl rfl
theorem d78_36 : decode cX10_readText 36 = .ok (.iconst 0, 1) := by decide +kernel
theorem s78_36 {d : Nat} {st : List Value} {σ : am_I} {ρ : am_R} {g : am_J} {τ : am_T} {Q : am_Q} {x0 x1 : Value} : AW d 78 36 [x0, x1] (st) σ ρ g τ Q = AW d 78 37 [x0, x1] (.int 0 :: st) σ ρ g τ Q := aw_lc m78 d78_36 rfl rfl rfl
theorem d78_37 : decode cX10_readText 37 = .ok (.ireturn, 1) := by decide +kernel
theorem s78_37 {d : Nat} {σ : am_I} {ρ : am_R} {g : am_J} {τ : am_T} {Q : am_Q} {x0 x1 : Value} {v : Int32} (hv : am_b01 v = true) : AW d 78 37 [x0, x1] ([.int v]) σ ρ g τ Q = Q (some (.int v)) σ ρ g τ := aw_rz m78 d78_37 rfl hv
theorem d78_38 : decode cX10_readText 38 = .ok (.iinc 1 1, 3) := by decide +kernel
theorem s78_38r {d : Nat} {st : List Value} {σ : am_I} {ρ : am_R} {g : am_J} {τ : am_T} {Q : am_Q} {v : Int32} {u : Nat} : AW d 78 38 [.ref u, .int v] (st) σ ρ g τ Q = AW d 78 41 [.ref u, .int (v + 1)] (st) σ ρ g τ Q := aw_lc m78 d78_38 rfl rfl rfl
theorem d78_41 : decode cX10_readText 41 = .ok (.goto (-25), 3) := by decide +kernel
theorem s78_41 {d : Nat} {st : List Value} {σ : am_I} {ρ : am_R} {g : am_J} {τ : am_T} {Q : am_Q} {x0 x1 : Value} : AW d 78 41 [x0, x1] (st) σ ρ g τ Q = AW d 78 16 [x0, x1] (st) σ ρ g τ Q := aw_lc m78 d78_41 rfl rfl rfl
theorem d78_44 : decode cX10_readText 44 = .ok (.aload_n 0, 1) := by decide +kernel
theorem s78_44 {d : Nat} {st : List Value} {σ : am_I} {ρ : am_R} {g : am_J} {τ : am_T} {Q : am_Q} {x1 : Value} {v : Nat} : AW d 78 44 [.ref v, x1] (st) σ ρ g τ Q = AW d 78 45 [.ref v, x1] (.ref v :: st) σ ρ g τ Q := aw_lc m78 d78_44 rfl rfl rfl
theorem d78_45 : decode cX10_readText 45 = .ok (.getfield 25, 3) := by decide +kernel
theorem s78_45 {d : Nat} {st : List Value} {σ : am_I} {ρ : am_R} {g : am_J} {τ : am_T} {Q : am_Q} {x0 x1 : Value} {a : Nat} (ht : τ.1 a = 10) : AW d 78 45 [x0, x1] (.ref a :: st) σ ρ g τ Q = AW d 78 48 [x0, x1] (.int (σ a 4) :: st) σ ρ g τ Q := aw_gi m78 d78_45 rfl rfl rfl ht
theorem d78_48 : decode cX10_readText 48 = .ok (.ifCond .ne 7, 3) := by decide +kernel
theorem s78_48 {d : Nat} {st : List Value} {σ : am_I} {ρ : am_R} {g : am_J} {τ : am_T} {Q : am_Q} {x0 x1 : Value} {v : Int32} : AW d 78 48 [x0, x1] (.int v :: st) σ ρ g τ Q = if ¬ v = 0 then AW d 78 55 [x0, x1] (st) σ ρ g τ Q else AW d 78 51 [x0, x1] (st) σ ρ g τ Q := aw_br m78 d78_48 rfl rfl rfl
theorem d78_51 : decode cX10_readText 51 = .ok (.iconst 1, 1) := by decide +kernel
theorem s78_51 {d : Nat} {st : List Value} {σ : am_I} {ρ : am_R} {g : am_J} {τ : am_T} {Q : am_Q} {x0 x1 : Value} : AW d 78 51 [x0, x1] (st) σ ρ g τ Q = AW d 78 52 [x0, x1] (.int 1 :: st) σ ρ g τ Q := aw_lc m78 d78_51 rfl rfl rfl
theorem d78_52 : decode cX10_readText 52 = .ok (.goto 4, 3) := by decide +kernel
theorem s78_52 {d : Nat} {st : List Value} {σ : am_I} {ρ : am_R} {g : am_J} {τ : am_T} {Q : am_Q} {x0 x1 : Value} : AW d 78 52 [x0, x1] (st) σ ρ g τ Q = AW d 78 56 [x0, x1] (st) σ ρ g τ Q := aw_lc m78 d78_52 rfl rfl rfl
theorem d78_55 : decode cX10_readText 55 = .ok (.iconst 0, 1) := by decide +kernel
theorem s78_55 {d : Nat} {st : List Value} {σ : am_I} {ρ : am_R} {g : am_J} {τ : am_T} {Q : am_Q} {x0 x1 : Value} : AW d 78 55 [x0, x1] (st) σ ρ g τ Q = AW d 78 56 [x0, x1] (.int 0 :: st) σ ρ g τ Q := aw_lc m78 d78_55 rfl rfl rfl
theorem d78_56 : decode cX10_readText 56 = .ok (.ireturn, 1) := by decide +kernel
theorem s78_56 {d : Nat} {σ : am_I} {ρ : am_R} {g : am_J} {τ : am_T} {Q : am_Q} {x0 x1 : Value} {v : Int32} (hv : am_b01 v = true) : AW d 78 56 [x0, x1] ([.int v]) σ ρ g τ Q = Q (some (.int v)) σ ρ g τ := aw_rz m78 d78_56 rfl hv
theorem d79_0 : decode cX10_takeLines 0 = .ok (.aload_n 0, 1) := by decide +kernel
theorem s79_0 {d : Nat} {st : List Value} {σ : am_I} {ρ : am_R} {g : am_J} {τ : am_T} {Q : am_Q} {x1 x2 : Value} {v : Nat} : AW d 79 0 [.ref v, x1, x2] (st) σ ρ g τ Q = AW d 79 1 [.ref v, x1, x2] (.ref v :: st) σ ρ g τ Q := aw_lc m79 d79_0 rfl rfl rfl
theorem d79_1 : decode cX10_takeLines 1 = .ok (.getfield 44, 3) := by decide +kernel
theorem s79_1 {d : Nat} {st : List Value} {σ : am_I} {ρ : am_R} {g : am_J} {τ : am_T} {Q : am_Q} {x0 x1 x2 : Value} {a : Nat} (ht : τ.1 a = 10) : AW d 79 1 [x0, x1, x2] (.ref a :: st) σ ρ g τ Q = AW d 79 4 [x0, x1, x2] (.int (σ a 9) :: st) σ ρ g τ Q := aw_gi m79 d79_1 rfl rfl rfl ht
theorem d79_4 : decode cX10_takeLines 4 = .ok (.anewarray 38, 3) := by decide +kernel
theorem s79_4 {d : Nat} {st : List Value} {σ : am_I} {ρ : am_R} {g : am_J} {τ : am_T} {Q : am_Q} {x0 x1 x2 : Value} {j : Int32} (hj : ¬ j < 0 ∧ j.toNatClampNeg ≤ 10000) : AW d 79 4 [x0, x1, x2] (.int j :: st) σ ρ g τ Q = AW d 79 7 [x0, x1, x2] (.ref τ.2.2.1 :: st) (am_new 19 j.toNatClampNeg σ ρ g τ).1 (am_new 19 j.toNatClampNeg σ ρ g τ).2.1 (am_new 19 j.toNatClampNeg σ ρ g τ).2.2.1 (am_new 19 j.toNatClampNeg σ ρ g τ).2.2.2 Q := aw_ana m79 d79_4 rfl rfl rfl (by decide) hj
theorem d79_7 : decode cX10_takeLines 7 = .ok (.astore_n 1, 1) := by decide +kernel
theorem s79_7r {d : Nat} {st : List Value} {σ : am_I} {ρ : am_R} {g : am_J} {τ : am_T} {Q : am_Q} {x1 x2 : Value} {v : Nat} {u : Nat} : AW d 79 7 [.ref u, x1, x2] (.ref v :: st) σ ρ g τ Q = AW d 79 8 [.ref u, .ref v, x2] (st) σ ρ g τ Q := aw_lc m79 d79_7 rfl rfl rfl
theorem d79_8 : decode cX10_takeLines 8 = .ok (.iconst 0, 1) := by decide +kernel
theorem s79_8 {d : Nat} {st : List Value} {σ : am_I} {ρ : am_R} {g : am_J} {τ : am_T} {Q : am_Q} {x0 x1 x2 : Value} : AW d 79 8 [x0, x1, x2] (st) σ ρ g τ Q = AW d 79 9 [x0, x1, x2] (.int 0 :: st) σ ρ g τ Q := aw_lc m79 d79_8 rfl rfl rfl
theorem d79_9 : decode cX10_takeLines 9 = .ok (.istore_n 2, 1) := by decide +kernel
theorem s79_9r {d : Nat} {st : List Value} {σ : am_I} {ρ : am_R} {g : am_J} {τ : am_T} {Q : am_Q} {x0 x2 : Value} {v : Int32} {u : Nat} : AW d 79 9 [x0, .ref u, x2] (.int v :: st) σ ρ g τ Q = AW d 79 10 [x0, .ref u, .int v] (st) σ ρ g τ Q := aw_lc m79 d79_9 rfl rfl rfl
theorem d79_10 : decode cX10_takeLines 10 = .ok (.iload_n 2, 1) := by decide +kernel
theorem s79_10 {d : Nat} {st : List Value} {σ : am_I} {ρ : am_R} {g : am_J} {τ : am_T} {Q : am_Q} {x0 x1 : Value} {v : Int32} : AW d 79 10 [x0, x1, .int v] (st) σ ρ g τ Q = AW d 79 11 [x0, x1, .int v] (.int v :: st) σ ρ g τ Q := aw_lc m79 d79_10 rfl rfl rfl
theorem d79_11 : decode cX10_takeLines 11 = .ok (.aload_n 0, 1) := by decide +kernel
theorem s79_11 {d : Nat} {st : List Value} {σ : am_I} {ρ : am_R} {g : am_J} {τ : am_T} {Q : am_Q} {x1 x2 : Value} {v : Nat} : AW d 79 11 [.ref v, x1, x2] (st) σ ρ g τ Q = AW d 79 12 [.ref v, x1, x2] (.ref v :: st) σ ρ g τ Q := aw_lc m79 d79_11 rfl rfl rfl
theorem d79_12 : decode cX10_takeLines 12 = .ok (.getfield 44, 3) := by decide +kernel
theorem s79_12 {d : Nat} {st : List Value} {σ : am_I} {ρ : am_R} {g : am_J} {τ : am_T} {Q : am_Q} {x0 x1 x2 : Value} {a : Nat} (ht : τ.1 a = 10) : AW d 79 12 [x0, x1, x2] (.ref a :: st) σ ρ g τ Q = AW d 79 15 [x0, x1, x2] (.int (σ a 9) :: st) σ ρ g τ Q := aw_gi m79 d79_12 rfl rfl rfl ht
theorem d79_15 : decode cX10_takeLines 15 = .ok (.if_icmp .ge 18, 3) := by decide +kernel
theorem s79_15 {d : Nat} {st : List Value} {σ : am_I} {ρ : am_R} {g : am_J} {τ : am_T} {Q : am_Q} {x0 x1 x2 : Value} {v w : Int32} : AW d 79 15 [x0, x1, x2] (.int w :: .int v :: st) σ ρ g τ Q = if w ≤ v then AW d 79 33 [x0, x1, x2] (st) σ ρ g τ Q else AW d 79 18 [x0, x1, x2] (st) σ ρ g τ Q := aw_br m79 d79_15 rfl rfl rfl
theorem d79_18 : decode cX10_takeLines 18 = .ok (.aload_n 1, 1) := by decide +kernel
theorem s79_18 {d : Nat} {st : List Value} {σ : am_I} {ρ : am_R} {g : am_J} {τ : am_T} {Q : am_Q} {x0 x2 : Value} {v : Nat} : AW d 79 18 [x0, .ref v, x2] (st) σ ρ g τ Q = AW d 79 19 [x0, .ref v, x2] (.ref v :: st) σ ρ g τ Q := aw_lc m79 d79_18 rfl rfl rfl
theorem d79_19 : decode cX10_takeLines 19 = .ok (.iload_n 2, 1) := by decide +kernel
theorem s79_19 {d : Nat} {st : List Value} {σ : am_I} {ρ : am_R} {g : am_J} {τ : am_T} {Q : am_Q} {x0 x1 : Value} {v : Int32} : AW d 79 19 [x0, x1, .int v] (st) σ ρ g τ Q = AW d 79 20 [x0, x1, .int v] (.int v :: st) σ ρ g τ Q := aw_lc m79 d79_19 rfl rfl rfl
theorem d79_20 : decode cX10_takeLines 20 = .ok (.aload_n 0, 1) := by decide +kernel
theorem s79_20 {d : Nat} {st : List Value} {σ : am_I} {ρ : am_R} {g : am_J} {τ : am_T} {Q : am_Q} {x1 x2 : Value} {v : Nat} : AW d 79 20 [.ref v, x1, x2] (st) σ ρ g τ Q = AW d 79 21 [.ref v, x1, x2] (.ref v :: st) σ ρ g τ Q := aw_lc m79 d79_20 rfl rfl rfl
theorem d79_21 : decode cX10_takeLines 21 = .ok (.getfield 40, 3) := by decide +kernel
theorem s79_21 {d : Nat} {st : List Value} {σ : am_I} {ρ : am_R} {g : am_J} {τ : am_T} {Q : am_Q} {x0 x1 x2 : Value} {a : Nat} (ht : τ.1 a = 10) : AW d 79 21 [x0, x1, x2] (.ref a :: st) σ ρ g τ Q = AW d 79 24 [x0, x1, x2] (va_rf (ρ a 8) :: st) σ ρ g τ Q := aw_gr m79 d79_21 rfl rfl rfl ht
theorem d79_24 : decode cX10_takeLines 24 = .ok (.iload_n 2, 1) := by decide +kernel
theorem s79_24 {d : Nat} {st : List Value} {σ : am_I} {ρ : am_R} {g : am_J} {τ : am_T} {Q : am_Q} {x0 x1 : Value} {v : Int32} : AW d 79 24 [x0, x1, .int v] (st) σ ρ g τ Q = AW d 79 25 [x0, x1, .int v] (.int v :: st) σ ρ g τ Q := aw_lc m79 d79_24 rfl rfl rfl
theorem d79_25 : decode cX10_takeLines 25 = .ok (.aaload, 1) := by decide +kernel
theorem s79_25 {d : Nat} {st : List Value} {σ : am_I} {ρ : am_R} {g : am_J} {τ : am_T} {Q : am_Q} {x0 x1 x2 : Value} {a : Nat} {j : Int32} (ht : 18 ≤ τ.1 a ∧ τ.1 a ≤ 22) (hj : am_inb j (τ.2.1 a) = true) : AW d 79 25 [x0, x1, x2] (.int j :: .ref a :: st) σ ρ g τ Q = AW d 79 26 [x0, x1, x2] (va_rf (ρ a j.toNatClampNeg) :: st) σ ρ g τ Q := aw_aal m79 d79_25 rfl ht hj
theorem d79_26 : decode cX10_takeLines 26 = .ok (.aastore, 1) := by decide +kernel
theorem s79_26 {d : Nat} {st : List Value} {σ : am_I} {ρ : am_R} {g : am_J} {τ : am_T} {Q : am_Q} {x0 x1 x2 : Value} {a b : Nat} {j : Int32} (ht : 18 ≤ τ.1 a ∧ τ.1 a ≤ 22) (hj : am_inb j (τ.2.1 a) = true) (hb : τ.1 b = am_elK (τ.1 a)) (hb2 : b < am_BG) : AW d 79 26 [x0, x1, x2] (.ref b :: .int j :: .ref a :: st) σ ρ g τ Q = AW d 79 27 [x0, x1, x2] (st) σ (am_u ρ a j.toNatClampNeg (some b)) g τ Q := aw_aas m79 d79_26 rfl ht hj hb hb2
theorem d79_27 : decode cX10_takeLines 27 = .ok (.iinc 2 1, 3) := by decide +kernel
theorem s79_27r {d : Nat} {st : List Value} {σ : am_I} {ρ : am_R} {g : am_J} {τ : am_T} {Q : am_Q} {x0 : Value} {v : Int32} {u : Nat} : AW d 79 27 [x0, .ref u, .int v] (st) σ ρ g τ Q = AW d 79 30 [x0, .ref u, .int (v + 1)] (st) σ ρ g τ Q := aw_lc m79 d79_27 rfl rfl rfl
theorem d79_30 : decode cX10_takeLines 30 = .ok (.goto (-20), 3) := by decide +kernel
theorem s79_30 {d : Nat} {st : List Value} {σ : am_I} {ρ : am_R} {g : am_J} {τ : am_T} {Q : am_Q} {x0 x1 x2 : Value} : AW d 79 30 [x0, x1, x2] (st) σ ρ g τ Q = AW d 79 10 [x0, x1, x2] (st) σ ρ g τ Q := aw_lc m79 d79_30 rfl rfl rfl
theorem d79_33 : decode cX10_takeLines 33 = .ok (.aload_n 1, 1) := by decide +kernel
theorem s79_33 {d : Nat} {st : List Value} {σ : am_I} {ρ : am_R} {g : am_J} {τ : am_T} {Q : am_Q} {x0 x2 : Value} {v : Nat} : AW d 79 33 [x0, .ref v, x2] (st) σ ρ g τ Q = AW d 79 34 [x0, .ref v, x2] (.ref v :: st) σ ρ g τ Q := aw_lc m79 d79_33 rfl rfl rfl
theorem d79_34 : decode cX10_takeLines 34 = .ok (.areturn, 1) := by decide +kernel
theorem s79_34 {d : Nat} {σ : am_I} {ρ : am_R} {g : am_J} {τ : am_T} {Q : am_Q} {x0 x1 x2 : Value} {b : Nat} : AW d 79 34 [x0, x1, x2] ([.ref b]) σ ρ g τ Q = Q (some (.ref b)) σ ρ g τ := aw_ra m79 d79_34 rfl
theorem d80_0 : decode cX10_advance 0 = .ok (.aload_n 0, 1) := by decide +kernel
theorem s80_0 {d : Nat} {st : List Value} {σ : am_I} {ρ : am_R} {g : am_J} {τ : am_T} {Q : am_Q} {x1 : Value} {v : Nat} : AW d 80 0 [.ref v, x1] (st) σ ρ g τ Q = AW d 80 1 [.ref v, x1] (.ref v :: st) σ ρ g τ Q := aw_lc m80 d80_0 rfl rfl rfl
theorem d80_1 : decode cX10_advance 1 = .ok (.getfield 22, 3) := by decide +kernel
theorem s80_1 {d : Nat} {st : List Value} {σ : am_I} {ρ : am_R} {g : am_J} {τ : am_T} {Q : am_Q} {x0 x1 : Value} {a : Nat} (ht : τ.1 a = 10) : AW d 80 1 [x0, x1] (.ref a :: st) σ ρ g τ Q = AW d 80 4 [x0, x1] (.int (σ a 3) :: st) σ ρ g τ Q := aw_gi m80 d80_1 rfl rfl rfl ht
theorem d80_4 : decode cX10_advance 4 = .ok (.istore_n 1, 1) := by decide +kernel
theorem s80_4r {d : Nat} {st : List Value} {σ : am_I} {ρ : am_R} {g : am_J} {τ : am_T} {Q : am_Q} {x1 : Value} {v : Int32} {u : Nat} : AW d 80 4 [.ref u, x1] (.int v :: st) σ ρ g τ Q = AW d 80 5 [.ref u, .int v] (st) σ ρ g τ Q := aw_lc m80 d80_4 rfl rfl rfl
theorem d80_5 : decode cX10_advance 5 = .ok (.iload_n 1, 1) := by decide +kernel
theorem s80_5 {d : Nat} {st : List Value} {σ : am_I} {ρ : am_R} {g : am_J} {τ : am_T} {Q : am_Q} {x0 : Value} {v : Int32} : AW d 80 5 [x0, .int v] (st) σ ρ g τ Q = AW d 80 6 [x0, .int v] (.int v :: st) σ ρ g τ Q := aw_lc m80 d80_5 rfl rfl rfl
theorem d80_6 : decode cX10_advance 6 = .ok (.aload_n 0, 1) := by decide +kernel
theorem s80_6 {d : Nat} {st : List Value} {σ : am_I} {ρ : am_R} {g : am_J} {τ : am_T} {Q : am_Q} {x1 : Value} {v : Nat} : AW d 80 6 [.ref v, x1] (st) σ ρ g τ Q = AW d 80 7 [.ref v, x1] (.ref v :: st) σ ρ g τ Q := aw_lc m80 d80_6 rfl rfl rfl
theorem d80_7 : decode cX10_advance 7 = .ok (.getfield 15, 3) := by decide +kernel
theorem s80_7 {d : Nat} {st : List Value} {σ : am_I} {ρ : am_R} {g : am_J} {τ : am_T} {Q : am_Q} {x0 x1 : Value} {a : Nat} (ht : τ.1 a = 10) : AW d 80 7 [x0, x1] (.ref a :: st) σ ρ g τ Q = AW d 80 10 [x0, x1] (.int (σ a 1) :: st) σ ρ g τ Q := aw_gi m80 d80_7 rfl rfl rfl ht
theorem d80_10 : decode cX10_advance 10 = .ok (.if_icmp .ge 20, 3) := by decide +kernel
theorem s80_10 {d : Nat} {st : List Value} {σ : am_I} {ρ : am_R} {g : am_J} {τ : am_T} {Q : am_Q} {x0 x1 : Value} {v w : Int32} : AW d 80 10 [x0, x1] (.int w :: .int v :: st) σ ρ g τ Q = if w ≤ v then AW d 80 30 [x0, x1] (st) σ ρ g τ Q else AW d 80 13 [x0, x1] (st) σ ρ g τ Q := aw_br m80 d80_10 rfl rfl rfl
theorem d80_13 : decode cX10_advance 13 = .ok (.aload_n 0, 1) := by decide +kernel
theorem s80_13 {d : Nat} {st : List Value} {σ : am_I} {ρ : am_R} {g : am_J} {τ : am_T} {Q : am_Q} {x1 : Value} {v : Nat} : AW d 80 13 [.ref v, x1] (st) σ ρ g τ Q = AW d 80 14 [.ref v, x1] (.ref v :: st) σ ρ g τ Q := aw_lc m80 d80_13 rfl rfl rfl
theorem d80_14 : decode cX10_advance 14 = .ok (.getfield 9, 3) := by decide +kernel
theorem s80_14 {d : Nat} {st : List Value} {σ : am_I} {ρ : am_R} {g : am_J} {τ : am_T} {Q : am_Q} {x0 x1 : Value} {a : Nat} (ht : τ.1 a = 10) : AW d 80 14 [x0, x1] (.ref a :: st) σ ρ g τ Q = AW d 80 17 [x0, x1] (va_rf (ρ a 0) :: st) σ ρ g τ Q := aw_gr m80 d80_14 rfl rfl rfl ht
theorem d80_17 : decode cX10_advance 17 = .ok (.iload_n 1, 1) := by decide +kernel
theorem s80_17 {d : Nat} {st : List Value} {σ : am_I} {ρ : am_R} {g : am_J} {τ : am_T} {Q : am_Q} {x0 : Value} {v : Int32} : AW d 80 17 [x0, .int v] (st) σ ρ g τ Q = AW d 80 18 [x0, .int v] (.int v :: st) σ ρ g τ Q := aw_lc m80 d80_17 rfl rfl rfl
theorem d80_18 : decode cX10_advance 18 = .ok (.baload, 1) := by decide +kernel
theorem s80_18 {d : Nat} {st : List Value} {σ : am_I} {ρ : am_R} {g : am_J} {τ : am_T} {Q : am_Q} {x0 x1 : Value} {a : Nat} {j : Int32} (ht : τ.1 a = 14 ∨ τ.1 a = 17) (hj : am_inb j (τ.2.1 a) = true) : AW d 80 18 [x0, x1] (.int j :: .ref a :: st) σ ρ g τ Q = AW d 80 19 [x0, x1] (.int (σ a j.toNatClampNeg) :: st) σ ρ g τ Q := aw_bal m80 d80_18 rfl ht hj
theorem d80_19 : decode cX10_advance 19 = .ok (.bipush 32, 2) := by decide +kernel
theorem s80_19 {d : Nat} {st : List Value} {σ : am_I} {ρ : am_R} {g : am_J} {τ : am_T} {Q : am_Q} {x0 x1 : Value} : AW d 80 19 [x0, x1] (st) σ ρ g τ Q = AW d 80 21 [x0, x1] (.int 32 :: st) σ ρ g τ Q := aw_lc m80 d80_19 rfl rfl rfl
theorem d80_21 : decode cX10_advance 21 = .ok (.if_icmp .ne 9, 3) := by decide +kernel
theorem s80_21 {d : Nat} {st : List Value} {σ : am_I} {ρ : am_R} {g : am_J} {τ : am_T} {Q : am_Q} {x0 x1 : Value} {v w : Int32} : AW d 80 21 [x0, x1] (.int w :: .int v :: st) σ ρ g τ Q = if ¬ v = w then AW d 80 30 [x0, x1] (st) σ ρ g τ Q else AW d 80 24 [x0, x1] (st) σ ρ g τ Q := aw_br m80 d80_21 rfl rfl rfl
theorem d80_24 : decode cX10_advance 24 = .ok (.iinc 1 1, 3) := by decide +kernel
theorem s80_24r {d : Nat} {st : List Value} {σ : am_I} {ρ : am_R} {g : am_J} {τ : am_T} {Q : am_Q} {v : Int32} {u : Nat} : AW d 80 24 [.ref u, .int v] (st) σ ρ g τ Q = AW d 80 27 [.ref u, .int (v + 1)] (st) σ ρ g τ Q := aw_lc m80 d80_24 rfl rfl rfl
theorem d80_27 : decode cX10_advance 27 = .ok (.goto (-22), 3) := by decide +kernel
theorem s80_27 {d : Nat} {st : List Value} {σ : am_I} {ρ : am_R} {g : am_J} {τ : am_T} {Q : am_Q} {x0 x1 : Value} : AW d 80 27 [x0, x1] (st) σ ρ g τ Q = AW d 80 5 [x0, x1] (st) σ ρ g τ Q := aw_lc m80 d80_27 rfl rfl rfl
theorem d80_30 : decode cX10_advance 30 = .ok (.aload_n 0, 1) := by decide +kernel
theorem s80_30 {d : Nat} {st : List Value} {σ : am_I} {ρ : am_R} {g : am_J} {τ : am_T} {Q : am_Q} {x1 : Value} {v : Nat} : AW d 80 30 [.ref v, x1] (st) σ ρ g τ Q = AW d 80 31 [.ref v, x1] (.ref v :: st) σ ρ g τ Q := aw_lc m80 d80_30 rfl rfl rfl
theorem d80_31 : decode cX10_advance 31 = .ok (.iload_n 1, 1) := by decide +kernel
theorem s80_31 {d : Nat} {st : List Value} {σ : am_I} {ρ : am_R} {g : am_J} {τ : am_T} {Q : am_Q} {x0 : Value} {v : Int32} : AW d 80 31 [x0, .int v] (st) σ ρ g τ Q = AW d 80 32 [x0, .int v] (.int v :: st) σ ρ g τ Q := aw_lc m80 d80_31 rfl rfl rfl
theorem d80_32 : decode cX10_advance 32 = .ok (.putfield 19, 3) := by decide +kernel
theorem s80_32 {d : Nat} {st : List Value} {σ : am_I} {ρ : am_R} {g : am_J} {τ : am_T} {Q : am_Q} {x0 x1 : Value} {a : Nat} {v : Int32} (ht : τ.1 a = 10) : AW d 80 32 [x0, x1] (.int v :: .ref a :: st) σ ρ g τ Q = AW d 80 35 [x0, x1] (st) (am_u σ a 2 v) ρ g τ Q := aw_pi m80 d80_32 rfl rfl (Or.inl rfl) rfl ht
theorem d80_35 : decode cX10_advance 35 = .ok (.aload_n 0, 1) := by decide +kernel
theorem s80_35 {d : Nat} {st : List Value} {σ : am_I} {ρ : am_R} {g : am_J} {τ : am_T} {Q : am_Q} {x1 : Value} {v : Nat} : AW d 80 35 [.ref v, x1] (st) σ ρ g τ Q = AW d 80 36 [.ref v, x1] (.ref v :: st) σ ρ g τ Q := aw_lc m80 d80_35 rfl rfl rfl
theorem d80_36 : decode cX10_advance 36 = .ok (.iconst 0, 1) := by decide +kernel
theorem s80_36 {d : Nat} {st : List Value} {σ : am_I} {ρ : am_R} {g : am_J} {τ : am_T} {Q : am_Q} {x0 x1 : Value} : AW d 80 36 [x0, x1] (st) σ ρ g τ Q = AW d 80 37 [x0, x1] (.int 0 :: st) σ ρ g τ Q := aw_lc m80 d80_36 rfl rfl rfl
theorem d80_37 : decode cX10_advance 37 = .ok (.putfield 28, 3) := by decide +kernel
theorem s80_37 {d : Nat} {st : List Value} {σ : am_I} {ρ : am_R} {g : am_J} {τ : am_T} {Q : am_Q} {x0 x1 : Value} {a : Nat} {v : Int32} (ht : τ.1 a = 10) : AW d 80 37 [x0, x1] (.int v :: .ref a :: st) σ ρ g τ Q = AW d 80 40 [x0, x1] (st) (am_u σ a 5 v) ρ g τ Q := aw_pi m80 d80_37 rfl rfl (Or.inl rfl) rfl ht
theorem d80_40 : decode cX10_advance 40 = .ok (.iload_n 1, 1) := by decide +kernel
theorem s80_40 {d : Nat} {st : List Value} {σ : am_I} {ρ : am_R} {g : am_J} {τ : am_T} {Q : am_Q} {x0 : Value} {v : Int32} : AW d 80 40 [x0, .int v] (st) σ ρ g τ Q = AW d 80 41 [x0, .int v] (.int v :: st) σ ρ g τ Q := aw_lc m80 d80_40 rfl rfl rfl
theorem d80_41 : decode cX10_advance 41 = .ok (.aload_n 0, 1) := by decide +kernel
theorem s80_41 {d : Nat} {st : List Value} {σ : am_I} {ρ : am_R} {g : am_J} {τ : am_T} {Q : am_Q} {x1 : Value} {v : Nat} : AW d 80 41 [.ref v, x1] (st) σ ρ g τ Q = AW d 80 42 [.ref v, x1] (.ref v :: st) σ ρ g τ Q := aw_lc m80 d80_41 rfl rfl rfl
theorem d80_42 : decode cX10_advance 42 = .ok (.getfield 15, 3) := by decide +kernel
theorem s80_42 {d : Nat} {st : List Value} {σ : am_I} {ρ : am_R} {g : am_J} {τ : am_T} {Q : am_Q} {x0 x1 : Value} {a : Nat} (ht : τ.1 a = 10) : AW d 80 42 [x0, x1] (.ref a :: st) σ ρ g τ Q = AW d 80 45 [x0, x1] (.int (σ a 1) :: st) σ ρ g τ Q := aw_gi m80 d80_42 rfl rfl rfl ht
theorem d80_45 : decode cX10_advance 45 = .ok (.if_icmp .lt 11, 3) := by decide +kernel
theorem s80_45 {d : Nat} {st : List Value} {σ : am_I} {ρ : am_R} {g : am_J} {τ : am_T} {Q : am_Q} {x0 x1 : Value} {v w : Int32} : AW d 80 45 [x0, x1] (.int w :: .int v :: st) σ ρ g τ Q = if v < w then AW d 80 56 [x0, x1] (st) σ ρ g τ Q else AW d 80 48 [x0, x1] (st) σ ρ g τ Q := aw_br m80 d80_45 rfl rfl rfl
theorem d80_48 : decode cX10_advance 48 = .ok (.aload_n 0, 1) := by decide +kernel
theorem s80_48 {d : Nat} {st : List Value} {σ : am_I} {ρ : am_R} {g : am_J} {τ : am_T} {Q : am_Q} {x1 : Value} {v : Nat} : AW d 80 48 [.ref v, x1] (st) σ ρ g τ Q = AW d 80 49 [.ref v, x1] (.ref v :: st) σ ρ g τ Q := aw_lc m80 d80_48 rfl rfl rfl
theorem d80_49 : decode cX10_advance 49 = .ok (.iconst 0, 1) := by decide +kernel
theorem s80_49 {d : Nat} {st : List Value} {σ : am_I} {ρ : am_R} {g : am_J} {τ : am_T} {Q : am_Q} {x0 x1 : Value} : AW d 80 49 [x0, x1] (st) σ ρ g τ Q = AW d 80 50 [x0, x1] (.int 0 :: st) σ ρ g τ Q := aw_lc m80 d80_49 rfl rfl rfl
theorem d80_50 : decode cX10_advance 50 = .ok (.putfield 25, 3) := by decide +kernel
theorem s80_50 {d : Nat} {st : List Value} {σ : am_I} {ρ : am_R} {g : am_J} {τ : am_T} {Q : am_Q} {x0 x1 : Value} {a : Nat} {v : Int32} (ht : τ.1 a = 10) : AW d 80 50 [x0, x1] (.int v :: .ref a :: st) σ ρ g τ Q = AW d 80 53 [x0, x1] (st) (am_u σ a 4 v) ρ g τ Q := aw_pi m80 d80_50 rfl rfl (Or.inl rfl) rfl ht
theorem d80_53 : decode cX10_advance 53 = .ok (.goto 142, 3) := by decide +kernel
theorem s80_53 {d : Nat} {st : List Value} {σ : am_I} {ρ : am_R} {g : am_J} {τ : am_T} {Q : am_Q} {x0 x1 : Value} : AW d 80 53 [x0, x1] (st) σ ρ g τ Q = AW d 80 195 [x0, x1] (st) σ ρ g τ Q := aw_lc m80 d80_53 rfl rfl rfl
theorem d80_56 : decode cX10_advance 56 = .ok (.aload_n 0, 1) := by decide +kernel
theorem s80_56 {d : Nat} {st : List Value} {σ : am_I} {ρ : am_R} {g : am_J} {τ : am_T} {Q : am_Q} {x1 : Value} {v : Nat} : AW d 80 56 [.ref v, x1] (st) σ ρ g τ Q = AW d 80 57 [.ref v, x1] (.ref v :: st) σ ρ g τ Q := aw_lc m80 d80_56 rfl rfl rfl
theorem d80_57 : decode cX10_advance 57 = .ok (.getfield 9, 3) := by decide +kernel
theorem s80_57 {d : Nat} {st : List Value} {σ : am_I} {ρ : am_R} {g : am_J} {τ : am_T} {Q : am_Q} {x0 x1 : Value} {a : Nat} (ht : τ.1 a = 10) : AW d 80 57 [x0, x1] (.ref a :: st) σ ρ g τ Q = AW d 80 60 [x0, x1] (va_rf (ρ a 0) :: st) σ ρ g τ Q := aw_gr m80 d80_57 rfl rfl rfl ht
theorem d80_60 : decode cX10_advance 60 = .ok (.iload_n 1, 1) := by decide +kernel
theorem s80_60 {d : Nat} {st : List Value} {σ : am_I} {ρ : am_R} {g : am_J} {τ : am_T} {Q : am_Q} {x0 : Value} {v : Int32} : AW d 80 60 [x0, .int v] (st) σ ρ g τ Q = AW d 80 61 [x0, .int v] (.int v :: st) σ ρ g τ Q := aw_lc m80 d80_60 rfl rfl rfl
theorem d80_61 : decode cX10_advance 61 = .ok (.baload, 1) := by decide +kernel
theorem s80_61 {d : Nat} {st : List Value} {σ : am_I} {ρ : am_R} {g : am_J} {τ : am_T} {Q : am_Q} {x0 x1 : Value} {a : Nat} {j : Int32} (ht : τ.1 a = 14 ∨ τ.1 a = 17) (hj : am_inb j (τ.2.1 a) = true) : AW d 80 61 [x0, x1] (.int j :: .ref a :: st) σ ρ g τ Q = AW d 80 62 [x0, x1] (.int (σ a j.toNatClampNeg) :: st) σ ρ g τ Q := aw_bal m80 d80_61 rfl ht hj
theorem d80_62 : decode cX10_advance 62 = .ok (.invokestatic 54, 3) := by decide +kernel
theorem s80_62 {d : Nat} {st : List Value} {σ : am_I} {ρ : am_R} {g : am_J} {τ : am_T} {Q : am_Q} {x0 x1 : Value} {p0 : Int32} (hs : st.length ≤ 4) : AW (d + 1) 80 62 [x0, x1] (.int p0 :: st) σ ρ g τ Q = AW d 81 0 [.int p0] [] σ ρ g τ (fun r9 σ ρ g τ => AW (d + 1) 80 65 [x0, x1] (r9.toList ++ st) σ ρ g τ Q) := aw_cs m80 d80_62 rfl (by simp only [List.length_cons]; omega) rfl rfl en81 ok81 rfl hs
theorem d80_65 : decode cX10_advance 65 = .ok (.ifCond .eq 34, 3) := by decide +kernel
theorem s80_65 {d : Nat} {st : List Value} {σ : am_I} {ρ : am_R} {g : am_J} {τ : am_T} {Q : am_Q} {x0 x1 : Value} {v : Int32} : AW d 80 65 [x0, x1] (.int v :: st) σ ρ g τ Q = if v = 0 then AW d 80 99 [x0, x1] (st) σ ρ g τ Q else AW d 80 68 [x0, x1] (st) σ ρ g τ Q := aw_br m80 d80_65 rfl rfl rfl
theorem d80_68 : decode cX10_advance 68 = .ok (.aload_n 0, 1) := by decide +kernel
theorem s80_68 {d : Nat} {st : List Value} {σ : am_I} {ρ : am_R} {g : am_J} {τ : am_T} {Q : am_Q} {x1 : Value} {v : Nat} : AW d 80 68 [.ref v, x1] (st) σ ρ g τ Q = AW d 80 69 [.ref v, x1] (.ref v :: st) σ ρ g τ Q := aw_lc m80 d80_68 rfl rfl rfl
theorem d80_69 : decode cX10_advance 69 = .ok (.iconst 1, 1) := by decide +kernel
theorem s80_69 {d : Nat} {st : List Value} {σ : am_I} {ρ : am_R} {g : am_J} {τ : am_T} {Q : am_Q} {x0 x1 : Value} : AW d 80 69 [x0, x1] (st) σ ρ g τ Q = AW d 80 70 [x0, x1] (.int 1 :: st) σ ρ g τ Q := aw_lc m80 d80_69 rfl rfl rfl
theorem d80_70 : decode cX10_advance 70 = .ok (.putfield 25, 3) := by decide +kernel
theorem s80_70 {d : Nat} {st : List Value} {σ : am_I} {ρ : am_R} {g : am_J} {τ : am_T} {Q : am_Q} {x0 x1 : Value} {a : Nat} {v : Int32} (ht : τ.1 a = 10) : AW d 80 70 [x0, x1] (.int v :: .ref a :: st) σ ρ g τ Q = AW d 80 73 [x0, x1] (st) (am_u σ a 4 v) ρ g τ Q := aw_pi m80 d80_70 rfl rfl (Or.inl rfl) rfl ht
theorem d80_73 : decode cX10_advance 73 = .ok (.iload_n 1, 1) := by decide +kernel
theorem s80_73 {d : Nat} {st : List Value} {σ : am_I} {ρ : am_R} {g : am_J} {τ : am_T} {Q : am_Q} {x0 : Value} {v : Int32} : AW d 80 73 [x0, .int v] (st) σ ρ g τ Q = AW d 80 74 [x0, .int v] (.int v :: st) σ ρ g τ Q := aw_lc m80 d80_73 rfl rfl rfl
theorem d80_74 : decode cX10_advance 74 = .ok (.aload_n 0, 1) := by decide +kernel
theorem s80_74 {d : Nat} {st : List Value} {σ : am_I} {ρ : am_R} {g : am_J} {τ : am_T} {Q : am_Q} {x1 : Value} {v : Nat} : AW d 80 74 [.ref v, x1] (st) σ ρ g τ Q = AW d 80 75 [.ref v, x1] (.ref v :: st) σ ρ g τ Q := aw_lc m80 d80_74 rfl rfl rfl
theorem d80_75 : decode cX10_advance 75 = .ok (.getfield 15, 3) := by decide +kernel
theorem s80_75 {d : Nat} {st : List Value} {σ : am_I} {ρ : am_R} {g : am_J} {τ : am_T} {Q : am_Q} {x0 x1 : Value} {a : Nat} (ht : τ.1 a = 10) : AW d 80 75 [x0, x1] (.ref a :: st) σ ρ g τ Q = AW d 80 78 [x0, x1] (.int (σ a 1) :: st) σ ρ g τ Q := aw_gi m80 d80_75 rfl rfl rfl ht
theorem d80_78 : decode cX10_advance 78 = .ok (.if_icmp .ge 117, 3) := by decide +kernel
theorem s80_78 {d : Nat} {st : List Value} {σ : am_I} {ρ : am_R} {g : am_J} {τ : am_T} {Q : am_Q} {x0 x1 : Value} {v w : Int32} : AW d 80 78 [x0, x1] (.int w :: .int v :: st) σ ρ g τ Q = if w ≤ v then AW d 80 195 [x0, x1] (st) σ ρ g τ Q else AW d 80 81 [x0, x1] (st) σ ρ g τ Q := aw_br m80 d80_78 rfl rfl rfl
theorem d80_81 : decode cX10_advance 81 = .ok (.aload_n 0, 1) := by decide +kernel
theorem s80_81 {d : Nat} {st : List Value} {σ : am_I} {ρ : am_R} {g : am_J} {τ : am_T} {Q : am_Q} {x1 : Value} {v : Nat} : AW d 80 81 [.ref v, x1] (st) σ ρ g τ Q = AW d 80 82 [.ref v, x1] (.ref v :: st) σ ρ g τ Q := aw_lc m80 d80_81 rfl rfl rfl
theorem d80_82 : decode cX10_advance 82 = .ok (.getfield 9, 3) := by decide +kernel
theorem s80_82 {d : Nat} {st : List Value} {σ : am_I} {ρ : am_R} {g : am_J} {τ : am_T} {Q : am_Q} {x0 x1 : Value} {a : Nat} (ht : τ.1 a = 10) : AW d 80 82 [x0, x1] (.ref a :: st) σ ρ g τ Q = AW d 80 85 [x0, x1] (va_rf (ρ a 0) :: st) σ ρ g τ Q := aw_gr m80 d80_82 rfl rfl rfl ht
theorem d80_85 : decode cX10_advance 85 = .ok (.iload_n 1, 1) := by decide +kernel
theorem s80_85 {d : Nat} {st : List Value} {σ : am_I} {ρ : am_R} {g : am_J} {τ : am_T} {Q : am_Q} {x0 : Value} {v : Int32} : AW d 80 85 [x0, .int v] (st) σ ρ g τ Q = AW d 80 86 [x0, .int v] (.int v :: st) σ ρ g τ Q := aw_lc m80 d80_85 rfl rfl rfl
theorem d80_86 : decode cX10_advance 86 = .ok (.baload, 1) := by decide +kernel
theorem s80_86 {d : Nat} {st : List Value} {σ : am_I} {ρ : am_R} {g : am_J} {τ : am_T} {Q : am_Q} {x0 x1 : Value} {a : Nat} {j : Int32} (ht : τ.1 a = 14 ∨ τ.1 a = 17) (hj : am_inb j (τ.2.1 a) = true) : AW d 80 86 [x0, x1] (.int j :: .ref a :: st) σ ρ g τ Q = AW d 80 87 [x0, x1] (.int (σ a j.toNatClampNeg) :: st) σ ρ g τ Q := aw_bal m80 d80_86 rfl ht hj
theorem d80_87 : decode cX10_advance 87 = .ok (.invokestatic 54, 3) := by decide +kernel
theorem s80_87 {d : Nat} {st : List Value} {σ : am_I} {ρ : am_R} {g : am_J} {τ : am_T} {Q : am_Q} {x0 x1 : Value} {p0 : Int32} (hs : st.length ≤ 4) : AW (d + 1) 80 87 [x0, x1] (.int p0 :: st) σ ρ g τ Q = AW d 81 0 [.int p0] [] σ ρ g τ (fun r9 σ ρ g τ => AW (d + 1) 80 90 [x0, x1] (r9.toList ++ st) σ ρ g τ Q) := aw_cs m80 d80_87 rfl (by simp only [List.length_cons]; omega) rfl rfl en81 ok81 rfl hs
theorem d80_90 : decode cX10_advance 90 = .ok (.ifCond .eq 105, 3) := by decide +kernel
theorem s80_90 {d : Nat} {st : List Value} {σ : am_I} {ρ : am_R} {g : am_J} {τ : am_T} {Q : am_Q} {x0 x1 : Value} {v : Int32} : AW d 80 90 [x0, x1] (.int v :: st) σ ρ g τ Q = if v = 0 then AW d 80 195 [x0, x1] (st) σ ρ g τ Q else AW d 80 93 [x0, x1] (st) σ ρ g τ Q := aw_br m80 d80_90 rfl rfl rfl
theorem d80_93 : decode cX10_advance 93 = .ok (.iinc 1 1, 3) := by decide +kernel
theorem s80_93r {d : Nat} {st : List Value} {σ : am_I} {ρ : am_R} {g : am_J} {τ : am_T} {Q : am_Q} {v : Int32} {u : Nat} : AW d 80 93 [.ref u, .int v] (st) σ ρ g τ Q = AW d 80 96 [.ref u, .int (v + 1)] (st) σ ρ g τ Q := aw_lc m80 d80_93 rfl rfl rfl
theorem d80_96 : decode cX10_advance 96 = .ok (.goto (-23), 3) := by decide +kernel
theorem s80_96 {d : Nat} {st : List Value} {σ : am_I} {ρ : am_R} {g : am_J} {τ : am_T} {Q : am_Q} {x0 x1 : Value} : AW d 80 96 [x0, x1] (st) σ ρ g τ Q = AW d 80 73 [x0, x1] (st) σ ρ g τ Q := aw_lc m80 d80_96 rfl rfl rfl
theorem d80_99 : decode cX10_advance 99 = .ok (.aload_n 0, 1) := by decide +kernel
theorem s80_99 {d : Nat} {st : List Value} {σ : am_I} {ρ : am_R} {g : am_J} {τ : am_T} {Q : am_Q} {x1 : Value} {v : Nat} : AW d 80 99 [.ref v, x1] (st) σ ρ g τ Q = AW d 80 100 [.ref v, x1] (.ref v :: st) σ ρ g τ Q := aw_lc m80 d80_99 rfl rfl rfl
theorem d80_100 : decode cX10_advance 100 = .ok (.getfield 9, 3) := by decide +kernel
theorem s80_100 {d : Nat} {st : List Value} {σ : am_I} {ρ : am_R} {g : am_J} {τ : am_T} {Q : am_Q} {x0 x1 : Value} {a : Nat} (ht : τ.1 a = 10) : AW d 80 100 [x0, x1] (.ref a :: st) σ ρ g τ Q = AW d 80 103 [x0, x1] (va_rf (ρ a 0) :: st) σ ρ g τ Q := aw_gr m80 d80_100 rfl rfl rfl ht
theorem d80_103 : decode cX10_advance 103 = .ok (.iload_n 1, 1) := by decide +kernel
theorem s80_103 {d : Nat} {st : List Value} {σ : am_I} {ρ : am_R} {g : am_J} {τ : am_T} {Q : am_Q} {x0 : Value} {v : Int32} : AW d 80 103 [x0, .int v] (st) σ ρ g τ Q = AW d 80 104 [x0, .int v] (.int v :: st) σ ρ g τ Q := aw_lc m80 d80_103 rfl rfl rfl
theorem d80_104 : decode cX10_advance 104 = .ok (.baload, 1) := by decide +kernel
theorem s80_104 {d : Nat} {st : List Value} {σ : am_I} {ρ : am_R} {g : am_J} {τ : am_T} {Q : am_Q} {x0 x1 : Value} {a : Nat} {j : Int32} (ht : τ.1 a = 14 ∨ τ.1 a = 17) (hj : am_inb j (τ.2.1 a) = true) : AW d 80 104 [x0, x1] (.int j :: .ref a :: st) σ ρ g τ Q = AW d 80 105 [x0, x1] (.int (σ a j.toNatClampNeg) :: st) σ ρ g τ Q := aw_bal m80 d80_104 rfl ht hj
theorem d80_105 : decode cX10_advance 105 = .ok (.invokestatic 58, 3) := by decide +kernel
theorem s80_105 {d : Nat} {st : List Value} {σ : am_I} {ρ : am_R} {g : am_J} {τ : am_T} {Q : am_Q} {x0 x1 : Value} {p0 : Int32} (hs : st.length ≤ 4) : AW (d + 1) 80 105 [x0, x1] (.int p0 :: st) σ ρ g τ Q = AW d 82 0 [.int p0] [] σ ρ g τ (fun r9 σ ρ g τ => AW (d + 1) 80 108 [x0, x1] (r9.toList ++ st) σ ρ g τ Q) := aw_cs m80 d80_105 rfl (by simp only [List.length_cons]; omega) rfl rfl en82 ok82 rfl hs
theorem d80_108 : decode cX10_advance 108 = .ok (.ifCond .eq 69, 3) := by decide +kernel
theorem s80_108 {d : Nat} {st : List Value} {σ : am_I} {ρ : am_R} {g : am_J} {τ : am_T} {Q : am_Q} {x0 x1 : Value} {v : Int32} : AW d 80 108 [x0, x1] (.int v :: st) σ ρ g τ Q = if v = 0 then AW d 80 177 [x0, x1] (st) σ ρ g τ Q else AW d 80 111 [x0, x1] (st) σ ρ g τ Q := aw_br m80 d80_108 rfl rfl rfl
theorem d80_111 : decode cX10_advance 111 = .ok (.aload_n 0, 1) := by decide +kernel
theorem s80_111 {d : Nat} {st : List Value} {σ : am_I} {ρ : am_R} {g : am_J} {τ : am_T} {Q : am_Q} {x1 : Value} {v : Nat} : AW d 80 111 [.ref v, x1] (st) σ ρ g τ Q = AW d 80 112 [.ref v, x1] (.ref v :: st) σ ρ g τ Q := aw_lc m80 d80_111 rfl rfl rfl
theorem d80_112 : decode cX10_advance 112 = .ok (.iconst 2, 1) := by decide +kernel
theorem s80_112 {d : Nat} {st : List Value} {σ : am_I} {ρ : am_R} {g : am_J} {τ : am_T} {Q : am_Q} {x0 x1 : Value} : AW d 80 112 [x0, x1] (st) σ ρ g τ Q = AW d 80 113 [x0, x1] (.int 2 :: st) σ ρ g τ Q := aw_lc m80 d80_112 rfl rfl rfl
theorem d80_113 : decode cX10_advance 113 = .ok (.putfield 25, 3) := by decide +kernel
theorem s80_113 {d : Nat} {st : List Value} {σ : am_I} {ρ : am_R} {g : am_J} {τ : am_T} {Q : am_Q} {x0 x1 : Value} {a : Nat} {v : Int32} (ht : τ.1 a = 10) : AW d 80 113 [x0, x1] (.int v :: .ref a :: st) σ ρ g τ Q = AW d 80 116 [x0, x1] (st) (am_u σ a 4 v) ρ g τ Q := aw_pi m80 d80_113 rfl rfl (Or.inl rfl) rfl ht
theorem d80_116 : decode cX10_advance 116 = .ok (.iload_n 1, 1) := by decide +kernel
theorem s80_116 {d : Nat} {st : List Value} {σ : am_I} {ρ : am_R} {g : am_J} {τ : am_T} {Q : am_Q} {x0 : Value} {v : Int32} : AW d 80 116 [x0, .int v] (st) σ ρ g τ Q = AW d 80 117 [x0, .int v] (.int v :: st) σ ρ g τ Q := aw_lc m80 d80_116 rfl rfl rfl
theorem d80_117 : decode cX10_advance 117 = .ok (.aload_n 0, 1) := by decide +kernel
theorem s80_117 {d : Nat} {st : List Value} {σ : am_I} {ρ : am_R} {g : am_J} {τ : am_T} {Q : am_Q} {x1 : Value} {v : Nat} : AW d 80 117 [.ref v, x1] (st) σ ρ g τ Q = AW d 80 118 [.ref v, x1] (.ref v :: st) σ ρ g τ Q := aw_lc m80 d80_117 rfl rfl rfl
theorem d80_118 : decode cX10_advance 118 = .ok (.getfield 15, 3) := by decide +kernel
theorem s80_118 {d : Nat} {st : List Value} {σ : am_I} {ρ : am_R} {g : am_J} {τ : am_T} {Q : am_Q} {x0 x1 : Value} {a : Nat} (ht : τ.1 a = 10) : AW d 80 118 [x0, x1] (.ref a :: st) σ ρ g τ Q = AW d 80 121 [x0, x1] (.int (σ a 1) :: st) σ ρ g τ Q := aw_gi m80 d80_118 rfl rfl rfl ht
theorem d80_121 : decode cX10_advance 121 = .ok (.if_icmp .ge 74, 3) := by decide +kernel
theorem s80_121 {d : Nat} {st : List Value} {σ : am_I} {ρ : am_R} {g : am_J} {τ : am_T} {Q : am_Q} {x0 x1 : Value} {v w : Int32} : AW d 80 121 [x0, x1] (.int w :: .int v :: st) σ ρ g τ Q = if w ≤ v then AW d 80 195 [x0, x1] (st) σ ρ g τ Q else AW d 80 124 [x0, x1] (st) σ ρ g τ Q := aw_br m80 d80_121 rfl rfl rfl
theorem d80_124 : decode cX10_advance 124 = .ok (.aload_n 0, 1) := by decide +kernel
theorem s80_124 {d : Nat} {st : List Value} {σ : am_I} {ρ : am_R} {g : am_J} {τ : am_T} {Q : am_Q} {x1 : Value} {v : Nat} : AW d 80 124 [.ref v, x1] (st) σ ρ g τ Q = AW d 80 125 [.ref v, x1] (.ref v :: st) σ ρ g τ Q := aw_lc m80 d80_124 rfl rfl rfl
theorem d80_125 : decode cX10_advance 125 = .ok (.getfield 9, 3) := by decide +kernel
theorem s80_125 {d : Nat} {st : List Value} {σ : am_I} {ρ : am_R} {g : am_J} {τ : am_T} {Q : am_Q} {x0 x1 : Value} {a : Nat} (ht : τ.1 a = 10) : AW d 80 125 [x0, x1] (.ref a :: st) σ ρ g τ Q = AW d 80 128 [x0, x1] (va_rf (ρ a 0) :: st) σ ρ g τ Q := aw_gr m80 d80_125 rfl rfl rfl ht
theorem d80_128 : decode cX10_advance 128 = .ok (.iload_n 1, 1) := by decide +kernel
theorem s80_128 {d : Nat} {st : List Value} {σ : am_I} {ρ : am_R} {g : am_J} {τ : am_T} {Q : am_Q} {x0 : Value} {v : Int32} : AW d 80 128 [x0, .int v] (st) σ ρ g τ Q = AW d 80 129 [x0, .int v] (.int v :: st) σ ρ g τ Q := aw_lc m80 d80_128 rfl rfl rfl
theorem d80_129 : decode cX10_advance 129 = .ok (.baload, 1) := by decide +kernel
theorem s80_129 {d : Nat} {st : List Value} {σ : am_I} {ρ : am_R} {g : am_J} {τ : am_T} {Q : am_Q} {x0 x1 : Value} {a : Nat} {j : Int32} (ht : τ.1 a = 14 ∨ τ.1 a = 17) (hj : am_inb j (τ.2.1 a) = true) : AW d 80 129 [x0, x1] (.int j :: .ref a :: st) σ ρ g τ Q = AW d 80 130 [x0, x1] (.int (σ a j.toNatClampNeg) :: st) σ ρ g τ Q := aw_bal m80 d80_129 rfl ht hj
theorem d80_130 : decode cX10_advance 130 = .ok (.invokestatic 58, 3) := by decide +kernel
theorem s80_130 {d : Nat} {st : List Value} {σ : am_I} {ρ : am_R} {g : am_J} {τ : am_T} {Q : am_Q} {x0 x1 : Value} {p0 : Int32} (hs : st.length ≤ 4) : AW (d + 1) 80 130 [x0, x1] (.int p0 :: st) σ ρ g τ Q = AW d 82 0 [.int p0] [] σ ρ g τ (fun r9 σ ρ g τ => AW (d + 1) 80 133 [x0, x1] (r9.toList ++ st) σ ρ g τ Q) := aw_cs m80 d80_130 rfl (by simp only [List.length_cons]; omega) rfl rfl en82 ok82 rfl hs
theorem d80_133 : decode cX10_advance 133 = .ok (.ifCond .eq 62, 3) := by decide +kernel
theorem s80_133 {d : Nat} {st : List Value} {σ : am_I} {ρ : am_R} {g : am_J} {τ : am_T} {Q : am_Q} {x0 x1 : Value} {v : Int32} : AW d 80 133 [x0, x1] (.int v :: st) σ ρ g τ Q = if v = 0 then AW d 80 195 [x0, x1] (st) σ ρ g τ Q else AW d 80 136 [x0, x1] (st) σ ρ g τ Q := aw_br m80 d80_133 rfl rfl rfl
theorem d80_136 : decode cX10_advance 136 = .ok (.aload_n 0, 1) := by decide +kernel
theorem s80_136 {d : Nat} {st : List Value} {σ : am_I} {ρ : am_R} {g : am_J} {τ : am_T} {Q : am_Q} {x1 : Value} {v : Nat} : AW d 80 136 [.ref v, x1] (st) σ ρ g τ Q = AW d 80 137 [.ref v, x1] (.ref v :: st) σ ρ g τ Q := aw_lc m80 d80_136 rfl rfl rfl
theorem d80_137 : decode cX10_advance 137 = .ok (.iload_n 1, 1) := by decide +kernel
theorem s80_137 {d : Nat} {st : List Value} {σ : am_I} {ρ : am_R} {g : am_J} {τ : am_T} {Q : am_Q} {x0 : Value} {v : Int32} : AW d 80 137 [x0, .int v] (st) σ ρ g τ Q = AW d 80 138 [x0, .int v] (.int v :: st) σ ρ g τ Q := aw_lc m80 d80_137 rfl rfl rfl
theorem d80_138 : decode cX10_advance 138 = .ok (.aload_n 0, 1) := by decide +kernel
theorem s80_138 {d : Nat} {st : List Value} {σ : am_I} {ρ : am_R} {g : am_J} {τ : am_T} {Q : am_Q} {x1 : Value} {v : Nat} : AW d 80 138 [.ref v, x1] (st) σ ρ g τ Q = AW d 80 139 [.ref v, x1] (.ref v :: st) σ ρ g τ Q := aw_lc m80 d80_138 rfl rfl rfl
theorem d80_139 : decode cX10_advance 139 = .ok (.getfield 19, 3) := by decide +kernel
theorem s80_139 {d : Nat} {st : List Value} {σ : am_I} {ρ : am_R} {g : am_J} {τ : am_T} {Q : am_Q} {x0 x1 : Value} {a : Nat} (ht : τ.1 a = 10) : AW d 80 139 [x0, x1] (.ref a :: st) σ ρ g τ Q = AW d 80 142 [x0, x1] (.int (σ a 2) :: st) σ ρ g τ Q := aw_gi m80 d80_139 rfl rfl rfl ht
theorem d80_142 : decode cX10_advance 142 = .ok (.isub, 1) := by decide +kernel
theorem s80_142 {d : Nat} {st : List Value} {σ : am_I} {ρ : am_R} {g : am_J} {τ : am_T} {Q : am_Q} {x0 x1 : Value} {v w : Int32} : AW d 80 142 [x0, x1] (.int w :: .int v :: st) σ ρ g τ Q = AW d 80 143 [x0, x1] (.int (v - w) :: st) σ ρ g τ Q := aw_lc m80 d80_142 rfl rfl rfl
theorem d80_143 : decode cX10_advance 143 = .ok (.iconst 3, 1) := by decide +kernel
theorem s80_143 {d : Nat} {st : List Value} {σ : am_I} {ρ : am_R} {g : am_J} {τ : am_T} {Q : am_Q} {x0 x1 : Value} : AW d 80 143 [x0, x1] (st) σ ρ g τ Q = AW d 80 144 [x0, x1] (.int 3 :: st) σ ρ g τ Q := aw_lc m80 d80_143 rfl rfl rfl
theorem d80_144 : decode cX10_advance 144 = .ok (.if_icmp .ge 23, 3) := by decide +kernel
theorem s80_144 {d : Nat} {st : List Value} {σ : am_I} {ρ : am_R} {g : am_J} {τ : am_T} {Q : am_Q} {x0 x1 : Value} {v w : Int32} : AW d 80 144 [x0, x1] (.int w :: .int v :: st) σ ρ g τ Q = if w ≤ v then AW d 80 167 [x0, x1] (st) σ ρ g τ Q else AW d 80 147 [x0, x1] (st) σ ρ g τ Q := aw_br m80 d80_144 rfl rfl rfl
theorem d80_147 : decode cX10_advance 147 = .ok (.aload_n 0, 1) := by decide +kernel
theorem s80_147 {d : Nat} {st : List Value} {σ : am_I} {ρ : am_R} {g : am_J} {τ : am_T} {Q : am_Q} {x1 : Value} {v : Nat} : AW d 80 147 [.ref v, x1] (st) σ ρ g τ Q = AW d 80 148 [.ref v, x1] (.ref v :: st) σ ρ g τ Q := aw_lc m80 d80_147 rfl rfl rfl
theorem d80_148 : decode cX10_advance 148 = .ok (.getfield 28, 3) := by decide +kernel
theorem s80_148 {d : Nat} {st : List Value} {σ : am_I} {ρ : am_R} {g : am_J} {τ : am_T} {Q : am_Q} {x0 x1 : Value} {a : Nat} (ht : τ.1 a = 10) : AW d 80 148 [x0, x1] (.ref a :: st) σ ρ g τ Q = AW d 80 151 [x0, x1] (.int (σ a 5) :: st) σ ρ g τ Q := aw_gi m80 d80_148 rfl rfl rfl ht
theorem d80_151 : decode cX10_advance 151 = .ok (.bipush 10, 2) := by decide +kernel
theorem s80_151 {d : Nat} {st : List Value} {σ : am_I} {ρ : am_R} {g : am_J} {τ : am_T} {Q : am_Q} {x0 x1 : Value} : AW d 80 151 [x0, x1] (st) σ ρ g τ Q = AW d 80 153 [x0, x1] (.int 10 :: st) σ ρ g τ Q := aw_lc m80 d80_151 rfl rfl rfl
theorem d80_153 : decode cX10_advance 153 = .ok (.imul, 1) := by decide +kernel
theorem s80_153 {d : Nat} {st : List Value} {σ : am_I} {ρ : am_R} {g : am_J} {τ : am_T} {Q : am_Q} {x0 x1 : Value} {v w : Int32} : AW d 80 153 [x0, x1] (.int w :: .int v :: st) σ ρ g τ Q = AW d 80 154 [x0, x1] (.int (v * w) :: st) σ ρ g τ Q := aw_lc m80 d80_153 rfl rfl rfl
theorem d80_154 : decode cX10_advance 154 = .ok (.aload_n 0, 1) := by decide +kernel
theorem s80_154 {d : Nat} {st : List Value} {σ : am_I} {ρ : am_R} {g : am_J} {τ : am_T} {Q : am_Q} {x1 : Value} {v : Nat} : AW d 80 154 [.ref v, x1] (st) σ ρ g τ Q = AW d 80 155 [.ref v, x1] (.ref v :: st) σ ρ g τ Q := aw_lc m80 d80_154 rfl rfl rfl
theorem d80_155 : decode cX10_advance 155 = .ok (.getfield 9, 3) := by decide +kernel
theorem s80_155 {d : Nat} {st : List Value} {σ : am_I} {ρ : am_R} {g : am_J} {τ : am_T} {Q : am_Q} {x0 x1 : Value} {a : Nat} (ht : τ.1 a = 10) : AW d 80 155 [x0, x1] (.ref a :: st) σ ρ g τ Q = AW d 80 158 [x0, x1] (va_rf (ρ a 0) :: st) σ ρ g τ Q := aw_gr m80 d80_155 rfl rfl rfl ht
theorem d80_158 : decode cX10_advance 158 = .ok (.iload_n 1, 1) := by decide +kernel
theorem s80_158 {d : Nat} {st : List Value} {σ : am_I} {ρ : am_R} {g : am_J} {τ : am_T} {Q : am_Q} {x0 : Value} {v : Int32} : AW d 80 158 [x0, .int v] (st) σ ρ g τ Q = AW d 80 159 [x0, .int v] (.int v :: st) σ ρ g τ Q := aw_lc m80 d80_158 rfl rfl rfl
theorem d80_159 : decode cX10_advance 159 = .ok (.baload, 1) := by decide +kernel
theorem s80_159 {d : Nat} {st : List Value} {σ : am_I} {ρ : am_R} {g : am_J} {τ : am_T} {Q : am_Q} {x0 x1 : Value} {a : Nat} {j : Int32} (ht : τ.1 a = 14 ∨ τ.1 a = 17) (hj : am_inb j (τ.2.1 a) = true) : AW d 80 159 [x0, x1] (.int j :: .ref a :: st) σ ρ g τ Q = AW d 80 160 [x0, x1] (.int (σ a j.toNatClampNeg) :: st) σ ρ g τ Q := aw_bal m80 d80_159 rfl ht hj
theorem d80_160 : decode cX10_advance 160 = .ok (.iadd, 1) := by decide +kernel
theorem s80_160 {d : Nat} {st : List Value} {σ : am_I} {ρ : am_R} {g : am_J} {τ : am_T} {Q : am_Q} {x0 x1 : Value} {v w : Int32} : AW d 80 160 [x0, x1] (.int w :: .int v :: st) σ ρ g τ Q = AW d 80 161 [x0, x1] (.int (v + w) :: st) σ ρ g τ Q := aw_lc m80 d80_160 rfl rfl rfl
theorem d80_161 : decode cX10_advance 161 = .ok (.bipush 48, 2) := by decide +kernel
theorem s80_161 {d : Nat} {st : List Value} {σ : am_I} {ρ : am_R} {g : am_J} {τ : am_T} {Q : am_Q} {x0 x1 : Value} : AW d 80 161 [x0, x1] (st) σ ρ g τ Q = AW d 80 163 [x0, x1] (.int 48 :: st) σ ρ g τ Q := aw_lc m80 d80_161 rfl rfl rfl
theorem d80_163 : decode cX10_advance 163 = .ok (.isub, 1) := by decide +kernel
theorem s80_163 {d : Nat} {st : List Value} {σ : am_I} {ρ : am_R} {g : am_J} {τ : am_T} {Q : am_Q} {x0 x1 : Value} {v w : Int32} : AW d 80 163 [x0, x1] (.int w :: .int v :: st) σ ρ g τ Q = AW d 80 164 [x0, x1] (.int (v - w) :: st) σ ρ g τ Q := aw_lc m80 d80_163 rfl rfl rfl
theorem d80_164 : decode cX10_advance 164 = .ok (.goto 4, 3) := by decide +kernel
theorem s80_164 {d : Nat} {st : List Value} {σ : am_I} {ρ : am_R} {g : am_J} {τ : am_T} {Q : am_Q} {x0 x1 : Value} : AW d 80 164 [x0, x1] (st) σ ρ g τ Q = AW d 80 168 [x0, x1] (st) σ ρ g τ Q := aw_lc m80 d80_164 rfl rfl rfl
theorem d80_167 : decode cX10_advance 167 = .ok (.iconst (-1), 1) := by decide +kernel
theorem s80_167 {d : Nat} {st : List Value} {σ : am_I} {ρ : am_R} {g : am_J} {τ : am_T} {Q : am_Q} {x0 x1 : Value} : AW d 80 167 [x0, x1] (st) σ ρ g τ Q = AW d 80 168 [x0, x1] (.int (-1) :: st) σ ρ g τ Q := aw_lc m80 d80_167 rfl rfl rfl
theorem d80_168 : decode cX10_advance 168 = .ok (.putfield 28, 3) := by decide +kernel
theorem s80_168 {d : Nat} {st : List Value} {σ : am_I} {ρ : am_R} {g : am_J} {τ : am_T} {Q : am_Q} {x0 x1 : Value} {a : Nat} {v : Int32} (ht : τ.1 a = 10) : AW d 80 168 [x0, x1] (.int v :: .ref a :: st) σ ρ g τ Q = AW d 80 171 [x0, x1] (st) (am_u σ a 5 v) ρ g τ Q := aw_pi m80 d80_168 rfl rfl (Or.inl rfl) rfl ht
theorem d80_171 : decode cX10_advance 171 = .ok (.iinc 1 1, 3) := by decide +kernel
theorem s80_171r {d : Nat} {st : List Value} {σ : am_I} {ρ : am_R} {g : am_J} {τ : am_T} {Q : am_Q} {v : Int32} {u : Nat} : AW d 80 171 [.ref u, .int v] (st) σ ρ g τ Q = AW d 80 174 [.ref u, .int (v + 1)] (st) σ ρ g τ Q := aw_lc m80 d80_171 rfl rfl rfl
theorem d80_174 : decode cX10_advance 174 = .ok (.goto (-58), 3) := by decide +kernel
theorem s80_174 {d : Nat} {st : List Value} {σ : am_I} {ρ : am_R} {g : am_J} {τ : am_T} {Q : am_Q} {x0 x1 : Value} : AW d 80 174 [x0, x1] (st) σ ρ g τ Q = AW d 80 116 [x0, x1] (st) σ ρ g τ Q := aw_lc m80 d80_174 rfl rfl rfl
theorem d80_177 : decode cX10_advance 177 = .ok (.aload_n 0, 1) := by decide +kernel
theorem s80_177 {d : Nat} {st : List Value} {σ : am_I} {ρ : am_R} {g : am_J} {τ : am_T} {Q : am_Q} {x1 : Value} {v : Nat} : AW d 80 177 [.ref v, x1] (st) σ ρ g τ Q = AW d 80 178 [.ref v, x1] (.ref v :: st) σ ρ g τ Q := aw_lc m80 d80_177 rfl rfl rfl
theorem d80_178 : decode cX10_advance 178 = .ok (.iconst 3, 1) := by decide +kernel
theorem s80_178 {d : Nat} {st : List Value} {σ : am_I} {ρ : am_R} {g : am_J} {τ : am_T} {Q : am_Q} {x0 x1 : Value} : AW d 80 178 [x0, x1] (st) σ ρ g τ Q = AW d 80 179 [x0, x1] (.int 3 :: st) σ ρ g τ Q := aw_lc m80 d80_178 rfl rfl rfl
theorem d80_179 : decode cX10_advance 179 = .ok (.putfield 25, 3) := by decide +kernel
theorem s80_179 {d : Nat} {st : List Value} {σ : am_I} {ρ : am_R} {g : am_J} {τ : am_T} {Q : am_Q} {x0 x1 : Value} {a : Nat} {v : Int32} (ht : τ.1 a = 10) : AW d 80 179 [x0, x1] (.int v :: .ref a :: st) σ ρ g τ Q = AW d 80 182 [x0, x1] (st) (am_u σ a 4 v) ρ g τ Q := aw_pi m80 d80_179 rfl rfl (Or.inl rfl) rfl ht
theorem d80_182 : decode cX10_advance 182 = .ok (.aload_n 0, 1) := by decide +kernel
theorem s80_182 {d : Nat} {st : List Value} {σ : am_I} {ρ : am_R} {g : am_J} {τ : am_T} {Q : am_Q} {x1 : Value} {v : Nat} : AW d 80 182 [.ref v, x1] (st) σ ρ g τ Q = AW d 80 183 [.ref v, x1] (.ref v :: st) σ ρ g τ Q := aw_lc m80 d80_182 rfl rfl rfl
theorem d80_183 : decode cX10_advance 183 = .ok (.aload_n 0, 1) := by decide +kernel
theorem s80_183 {d : Nat} {st : List Value} {σ : am_I} {ρ : am_R} {g : am_J} {τ : am_T} {Q : am_Q} {x1 : Value} {v : Nat} : AW d 80 183 [.ref v, x1] (st) σ ρ g τ Q = AW d 80 184 [.ref v, x1] (.ref v :: st) σ ρ g τ Q := aw_lc m80 d80_183 rfl rfl rfl
theorem d80_184 : decode cX10_advance 184 = .ok (.getfield 9, 3) := by decide +kernel
theorem s80_184 {d : Nat} {st : List Value} {σ : am_I} {ρ : am_R} {g : am_J} {τ : am_T} {Q : am_Q} {x0 x1 : Value} {a : Nat} (ht : τ.1 a = 10) : AW d 80 184 [x0, x1] (.ref a :: st) σ ρ g τ Q = AW d 80 187 [x0, x1] (va_rf (ρ a 0) :: st) σ ρ g τ Q := aw_gr m80 d80_184 rfl rfl rfl ht
theorem d80_187 : decode cX10_advance 187 = .ok (.iload_n 1, 1) := by decide +kernel
theorem s80_187 {d : Nat} {st : List Value} {σ : am_I} {ρ : am_R} {g : am_J} {τ : am_T} {Q : am_Q} {x0 : Value} {v : Int32} : AW d 80 187 [x0, .int v] (st) σ ρ g τ Q = AW d 80 188 [x0, .int v] (.int v :: st) σ ρ g τ Q := aw_lc m80 d80_187 rfl rfl rfl
theorem d80_188 : decode cX10_advance 188 = .ok (.baload, 1) := by decide +kernel
theorem s80_188 {d : Nat} {st : List Value} {σ : am_I} {ρ : am_R} {g : am_J} {τ : am_T} {Q : am_Q} {x0 x1 : Value} {a : Nat} {j : Int32} (ht : τ.1 a = 14 ∨ τ.1 a = 17) (hj : am_inb j (τ.2.1 a) = true) : AW d 80 188 [x0, x1] (.int j :: .ref a :: st) σ ρ g τ Q = AW d 80 189 [x0, x1] (.int (σ a j.toNatClampNeg) :: st) σ ρ g τ Q := aw_bal m80 d80_188 rfl ht hj
theorem d80_189 : decode cX10_advance 189 = .ok (.putfield 28, 3) := by decide +kernel
theorem s80_189 {d : Nat} {st : List Value} {σ : am_I} {ρ : am_R} {g : am_J} {τ : am_T} {Q : am_Q} {x0 x1 : Value} {a : Nat} {v : Int32} (ht : τ.1 a = 10) : AW d 80 189 [x0, x1] (.int v :: .ref a :: st) σ ρ g τ Q = AW d 80 192 [x0, x1] (st) (am_u σ a 5 v) ρ g τ Q := aw_pi m80 d80_189 rfl rfl (Or.inl rfl) rfl ht
theorem d80_192 : decode cX10_advance 192 = .ok (.iinc 1 1, 3) := by decide +kernel
theorem s80_192r {d : Nat} {st : List Value} {σ : am_I} {ρ : am_R} {g : am_J} {τ : am_T} {Q : am_Q} {v : Int32} {u : Nat} : AW d 80 192 [.ref u, .int v] (st) σ ρ g τ Q = AW d 80 195 [.ref u, .int (v + 1)] (st) σ ρ g τ Q := aw_lc m80 d80_192 rfl rfl rfl
theorem d80_195 : decode cX10_advance 195 = .ok (.aload_n 0, 1) := by decide +kernel
theorem s80_195 {d : Nat} {st : List Value} {σ : am_I} {ρ : am_R} {g : am_J} {τ : am_T} {Q : am_Q} {x1 : Value} {v : Nat} : AW d 80 195 [.ref v, x1] (st) σ ρ g τ Q = AW d 80 196 [.ref v, x1] (.ref v :: st) σ ρ g τ Q := aw_lc m80 d80_195 rfl rfl rfl
theorem d80_196 : decode cX10_advance 196 = .ok (.iload_n 1, 1) := by decide +kernel
theorem s80_196 {d : Nat} {st : List Value} {σ : am_I} {ρ : am_R} {g : am_J} {τ : am_T} {Q : am_Q} {x0 : Value} {v : Int32} : AW d 80 196 [x0, .int v] (st) σ ρ g τ Q = AW d 80 197 [x0, .int v] (.int v :: st) σ ρ g τ Q := aw_lc m80 d80_196 rfl rfl rfl
theorem d80_197 : decode cX10_advance 197 = .ok (.putfield 22, 3) := by decide +kernel
theorem s80_197 {d : Nat} {st : List Value} {σ : am_I} {ρ : am_R} {g : am_J} {τ : am_T} {Q : am_Q} {x0 x1 : Value} {a : Nat} {v : Int32} (ht : τ.1 a = 10) : AW d 80 197 [x0, x1] (.int v :: .ref a :: st) σ ρ g τ Q = AW d 80 200 [x0, x1] (st) (am_u σ a 3 v) ρ g τ Q := aw_pi m80 d80_197 rfl rfl (Or.inl rfl) rfl ht
theorem d80_200 : decode cX10_advance 200 = .ok (.return_, 1) := by decide +kernel
theorem s80_200 {d : Nat} {σ : am_I} {ρ : am_R} {g : am_J} {τ : am_T} {Q : am_Q} {x0 x1 : Value} : AW d 80 200 [x0, x1] ([]) σ ρ g τ Q = Q none σ ρ g τ := aw_rv m80 d80_200 rfl
theorem d81_0 : decode cX10_isLetter 0 = .ok (.iload_n 0, 1) := by decide +kernel
theorem s81_0 {d : Nat} {st : List Value} {σ : am_I} {ρ : am_R} {g : am_J} {τ : am_T} {Q : am_Q} {v : Int32} : AW d 81 0 [.int v] (st) σ ρ g τ Q = AW d 81 1 [.int v] (.int v :: st) σ ρ g τ Q := aw_lc m81 d81_0 rfl rfl rfl
theorem d81_1 : decode cX10_isLetter 1 = .ok (.bipush 97, 2) := by decide +kernel
theorem s81_1 {d : Nat} {st : List Value} {σ : am_I} {ρ : am_R} {g : am_J} {τ : am_T} {Q : am_Q} {x0 : Value} : AW d 81 1 [x0] (st) σ ρ g τ Q = AW d 81 3 [x0] (.int 97 :: st) σ ρ g τ Q := aw_lc m81 d81_1 rfl rfl rfl
theorem d81_3 : decode cX10_isLetter 3 = .ok (.if_icmp .lt 13, 3) := by decide +kernel
theorem s81_3 {d : Nat} {st : List Value} {σ : am_I} {ρ : am_R} {g : am_J} {τ : am_T} {Q : am_Q} {x0 : Value} {v w : Int32} : AW d 81 3 [x0] (.int w :: .int v :: st) σ ρ g τ Q = if v < w then AW d 81 16 [x0] (st) σ ρ g τ Q else AW d 81 6 [x0] (st) σ ρ g τ Q := aw_br m81 d81_3 rfl rfl rfl
theorem d81_6 : decode cX10_isLetter 6 = .ok (.iload_n 0, 1) := by decide +kernel
theorem s81_6 {d : Nat} {st : List Value} {σ : am_I} {ρ : am_R} {g : am_J} {τ : am_T} {Q : am_Q} {v : Int32} : AW d 81 6 [.int v] (st) σ ρ g τ Q = AW d 81 7 [.int v] (.int v :: st) σ ρ g τ Q := aw_lc m81 d81_6 rfl rfl rfl
theorem d81_7 : decode cX10_isLetter 7 = .ok (.bipush 122, 2) := by decide +kernel
theorem s81_7 {d : Nat} {st : List Value} {σ : am_I} {ρ : am_R} {g : am_J} {τ : am_T} {Q : am_Q} {x0 : Value} : AW d 81 7 [x0] (st) σ ρ g τ Q = AW d 81 9 [x0] (.int 122 :: st) σ ρ g τ Q := aw_lc m81 d81_7 rfl rfl rfl
theorem d81_9 : decode cX10_isLetter 9 = .ok (.if_icmp .gt 7, 3) := by decide +kernel
theorem s81_9 {d : Nat} {st : List Value} {σ : am_I} {ρ : am_R} {g : am_J} {τ : am_T} {Q : am_Q} {x0 : Value} {v w : Int32} : AW d 81 9 [x0] (.int w :: .int v :: st) σ ρ g τ Q = if w < v then AW d 81 16 [x0] (st) σ ρ g τ Q else AW d 81 12 [x0] (st) σ ρ g τ Q := aw_br m81 d81_9 rfl rfl rfl
theorem d81_12 : decode cX10_isLetter 12 = .ok (.iconst 1, 1) := by decide +kernel
theorem s81_12 {d : Nat} {st : List Value} {σ : am_I} {ρ : am_R} {g : am_J} {τ : am_T} {Q : am_Q} {x0 : Value} : AW d 81 12 [x0] (st) σ ρ g τ Q = AW d 81 13 [x0] (.int 1 :: st) σ ρ g τ Q := aw_lc m81 d81_12 rfl rfl rfl
theorem d81_13 : decode cX10_isLetter 13 = .ok (.goto 4, 3) := by decide +kernel
theorem s81_13 {d : Nat} {st : List Value} {σ : am_I} {ρ : am_R} {g : am_J} {τ : am_T} {Q : am_Q} {x0 : Value} : AW d 81 13 [x0] (st) σ ρ g τ Q = AW d 81 17 [x0] (st) σ ρ g τ Q := aw_lc m81 d81_13 rfl rfl rfl
theorem d81_16 : decode cX10_isLetter 16 = .ok (.iconst 0, 1) := by decide +kernel
theorem s81_16 {d : Nat} {st : List Value} {σ : am_I} {ρ : am_R} {g : am_J} {τ : am_T} {Q : am_Q} {x0 : Value} : AW d 81 16 [x0] (st) σ ρ g τ Q = AW d 81 17 [x0] (.int 0 :: st) σ ρ g τ Q := aw_lc m81 d81_16 rfl rfl rfl
theorem d81_17 : decode cX10_isLetter 17 = .ok (.ireturn, 1) := by decide +kernel
theorem s81_17 {d : Nat} {σ : am_I} {ρ : am_R} {g : am_J} {τ : am_T} {Q : am_Q} {x0 : Value} {v : Int32} (hv : am_b01 v = true) : AW d 81 17 [x0] ([.int v]) σ ρ g τ Q = Q (some (.int v)) σ ρ g τ := aw_rz m81 d81_17 rfl hv
theorem d82_0 : decode cX10_isDigit 0 = .ok (.iload_n 0, 1) := by decide +kernel
theorem s82_0 {d : Nat} {st : List Value} {σ : am_I} {ρ : am_R} {g : am_J} {τ : am_T} {Q : am_Q} {v : Int32} : AW d 82 0 [.int v] (st) σ ρ g τ Q = AW d 82 1 [.int v] (.int v :: st) σ ρ g τ Q := aw_lc m82 d82_0 rfl rfl rfl
theorem d82_1 : decode cX10_isDigit 1 = .ok (.bipush 48, 2) := by decide +kernel
theorem s82_1 {d : Nat} {st : List Value} {σ : am_I} {ρ : am_R} {g : am_J} {τ : am_T} {Q : am_Q} {x0 : Value} : AW d 82 1 [x0] (st) σ ρ g τ Q = AW d 82 3 [x0] (.int 48 :: st) σ ρ g τ Q := aw_lc m82 d82_1 rfl rfl rfl
theorem d82_3 : decode cX10_isDigit 3 = .ok (.if_icmp .lt 13, 3) := by decide +kernel
theorem s82_3 {d : Nat} {st : List Value} {σ : am_I} {ρ : am_R} {g : am_J} {τ : am_T} {Q : am_Q} {x0 : Value} {v w : Int32} : AW d 82 3 [x0] (.int w :: .int v :: st) σ ρ g τ Q = if v < w then AW d 82 16 [x0] (st) σ ρ g τ Q else AW d 82 6 [x0] (st) σ ρ g τ Q := aw_br m82 d82_3 rfl rfl rfl
theorem d82_6 : decode cX10_isDigit 6 = .ok (.iload_n 0, 1) := by decide +kernel
theorem s82_6 {d : Nat} {st : List Value} {σ : am_I} {ρ : am_R} {g : am_J} {τ : am_T} {Q : am_Q} {v : Int32} : AW d 82 6 [.int v] (st) σ ρ g τ Q = AW d 82 7 [.int v] (.int v :: st) σ ρ g τ Q := aw_lc m82 d82_6 rfl rfl rfl
theorem d82_7 : decode cX10_isDigit 7 = .ok (.bipush 57, 2) := by decide +kernel
theorem s82_7 {d : Nat} {st : List Value} {σ : am_I} {ρ : am_R} {g : am_J} {τ : am_T} {Q : am_Q} {x0 : Value} : AW d 82 7 [x0] (st) σ ρ g τ Q = AW d 82 9 [x0] (.int 57 :: st) σ ρ g τ Q := aw_lc m82 d82_7 rfl rfl rfl
theorem d82_9 : decode cX10_isDigit 9 = .ok (.if_icmp .gt 7, 3) := by decide +kernel
theorem s82_9 {d : Nat} {st : List Value} {σ : am_I} {ρ : am_R} {g : am_J} {τ : am_T} {Q : am_Q} {x0 : Value} {v w : Int32} : AW d 82 9 [x0] (.int w :: .int v :: st) σ ρ g τ Q = if w < v then AW d 82 16 [x0] (st) σ ρ g τ Q else AW d 82 12 [x0] (st) σ ρ g τ Q := aw_br m82 d82_9 rfl rfl rfl
theorem d82_12 : decode cX10_isDigit 12 = .ok (.iconst 1, 1) := by decide +kernel
theorem s82_12 {d : Nat} {st : List Value} {σ : am_I} {ρ : am_R} {g : am_J} {τ : am_T} {Q : am_Q} {x0 : Value} : AW d 82 12 [x0] (st) σ ρ g τ Q = AW d 82 13 [x0] (.int 1 :: st) σ ρ g τ Q := aw_lc m82 d82_12 rfl rfl rfl
theorem d82_13 : decode cX10_isDigit 13 = .ok (.goto 4, 3) := by decide +kernel
theorem s82_13 {d : Nat} {st : List Value} {σ : am_I} {ρ : am_R} {g : am_J} {τ : am_T} {Q : am_Q} {x0 : Value} : AW d 82 13 [x0] (st) σ ρ g τ Q = AW d 82 17 [x0] (st) σ ρ g τ Q := aw_lc m82 d82_13 rfl rfl rfl
theorem d82_16 : decode cX10_isDigit 16 = .ok (.iconst 0, 1) := by decide +kernel
theorem s82_16 {d : Nat} {st : List Value} {σ : am_I} {ρ : am_R} {g : am_J} {τ : am_T} {Q : am_Q} {x0 : Value} : AW d 82 16 [x0] (st) σ ρ g τ Q = AW d 82 17 [x0] (.int 0 :: st) σ ρ g τ Q := aw_lc m82 d82_16 rfl rfl rfl
theorem d82_17 : decode cX10_isDigit 17 = .ok (.ireturn, 1) := by decide +kernel
theorem s82_17 {d : Nat} {σ : am_I} {ρ : am_R} {g : am_J} {τ : am_T} {Q : am_Q} {x0 : Value} {v : Int32} (hv : am_b01 v = true) : AW d 82 17 [x0] ([.int v]) σ ρ g τ Q = Q (some (.int v)) σ ρ g τ := aw_rz m82 d82_17 rfl hv
theorem d83_0 : decode cX10_isName 0 = .ok (.aload_n 0, 1) := by decide +kernel
theorem s83_0 {d : Nat} {st : List Value} {σ : am_I} {ρ : am_R} {g : am_J} {τ : am_T} {Q : am_Q} {x1 x2 : Value} {v : Nat} : AW d 83 0 [.ref v, x1, x2] (st) σ ρ g τ Q = AW d 83 1 [.ref v, x1, x2] (.ref v :: st) σ ρ g τ Q := aw_lc m83 d83_0 rfl rfl rfl
theorem d83_1 : decode cX10_isName 1 = .ok (.getfield 25, 3) := by decide +kernel
theorem s83_1 {d : Nat} {st : List Value} {σ : am_I} {ρ : am_R} {g : am_J} {τ : am_T} {Q : am_Q} {x0 x1 x2 : Value} {a : Nat} (ht : τ.1 a = 10) : AW d 83 1 [x0, x1, x2] (.ref a :: st) σ ρ g τ Q = AW d 83 4 [x0, x1, x2] (.int (σ a 4) :: st) σ ρ g τ Q := aw_gi m83 d83_1 rfl rfl rfl ht
theorem d83_4 : decode cX10_isName 4 = .ok (.iconst 1, 1) := by decide +kernel
theorem s83_4 {d : Nat} {st : List Value} {σ : am_I} {ρ : am_R} {g : am_J} {τ : am_T} {Q : am_Q} {x0 x1 x2 : Value} : AW d 83 4 [x0, x1, x2] (st) σ ρ g τ Q = AW d 83 5 [x0, x1, x2] (.int 1 :: st) σ ρ g τ Q := aw_lc m83 d83_4 rfl rfl rfl
theorem d83_5 : decode cX10_isName 5 = .ok (.if_icmp .ne 19, 3) := by decide +kernel
theorem s83_5 {d : Nat} {st : List Value} {σ : am_I} {ρ : am_R} {g : am_J} {τ : am_T} {Q : am_Q} {x0 x1 x2 : Value} {v w : Int32} : AW d 83 5 [x0, x1, x2] (.int w :: .int v :: st) σ ρ g τ Q = if ¬ v = w then AW d 83 24 [x0, x1, x2] (st) σ ρ g τ Q else AW d 83 8 [x0, x1, x2] (st) σ ρ g τ Q := aw_br m83 d83_5 rfl rfl rfl
theorem d83_8 : decode cX10_isName 8 = .ok (.aload_n 0, 1) := by decide +kernel
theorem s83_8 {d : Nat} {st : List Value} {σ : am_I} {ρ : am_R} {g : am_J} {τ : am_T} {Q : am_Q} {x1 x2 : Value} {v : Nat} : AW d 83 8 [.ref v, x1, x2] (st) σ ρ g τ Q = AW d 83 9 [.ref v, x1, x2] (.ref v :: st) σ ρ g τ Q := aw_lc m83 d83_8 rfl rfl rfl
theorem d83_9 : decode cX10_isName 9 = .ok (.getfield 22, 3) := by decide +kernel
theorem s83_9 {d : Nat} {st : List Value} {σ : am_I} {ρ : am_R} {g : am_J} {τ : am_T} {Q : am_Q} {x0 x1 x2 : Value} {a : Nat} (ht : τ.1 a = 10) : AW d 83 9 [x0, x1, x2] (.ref a :: st) σ ρ g τ Q = AW d 83 12 [x0, x1, x2] (.int (σ a 3) :: st) σ ρ g τ Q := aw_gi m83 d83_9 rfl rfl rfl ht
theorem d83_12 : decode cX10_isName 12 = .ok (.aload_n 0, 1) := by decide +kernel
theorem s83_12 {d : Nat} {st : List Value} {σ : am_I} {ρ : am_R} {g : am_J} {τ : am_T} {Q : am_Q} {x1 x2 : Value} {v : Nat} : AW d 83 12 [.ref v, x1, x2] (st) σ ρ g τ Q = AW d 83 13 [.ref v, x1, x2] (.ref v :: st) σ ρ g τ Q := aw_lc m83 d83_12 rfl rfl rfl
theorem d83_13 : decode cX10_isName 13 = .ok (.getfield 19, 3) := by decide +kernel
theorem s83_13 {d : Nat} {st : List Value} {σ : am_I} {ρ : am_R} {g : am_J} {τ : am_T} {Q : am_Q} {x0 x1 x2 : Value} {a : Nat} (ht : τ.1 a = 10) : AW d 83 13 [x0, x1, x2] (.ref a :: st) σ ρ g τ Q = AW d 83 16 [x0, x1, x2] (.int (σ a 2) :: st) σ ρ g τ Q := aw_gi m83 d83_13 rfl rfl rfl ht
theorem d83_16 : decode cX10_isName 16 = .ok (.isub, 1) := by decide +kernel
theorem s83_16 {d : Nat} {st : List Value} {σ : am_I} {ρ : am_R} {g : am_J} {τ : am_T} {Q : am_Q} {x0 x1 x2 : Value} {v w : Int32} : AW d 83 16 [x0, x1, x2] (.int w :: .int v :: st) σ ρ g τ Q = AW d 83 17 [x0, x1, x2] (.int (v - w) :: st) σ ρ g τ Q := aw_lc m83 d83_16 rfl rfl rfl
theorem d83_17 : decode cX10_isName 17 = .ok (.aload_n 1, 1) := by decide +kernel
theorem s83_17 {d : Nat} {st : List Value} {σ : am_I} {ρ : am_R} {g : am_J} {τ : am_T} {Q : am_Q} {x0 x2 : Value} {v : Nat} : AW d 83 17 [x0, .ref v, x2] (st) σ ρ g τ Q = AW d 83 18 [x0, .ref v, x2] (.ref v :: st) σ ρ g τ Q := aw_lc m83 d83_17 rfl rfl rfl
theorem d83_18 : decode cX10_isName 18 = .ok (.invokevirtual 61, 3) := by decide +kernel
theorem s83_18 {d : Nat} {st : List Value} {σ : am_I} {ρ : am_R} {g : am_J} {τ : am_T} {Q : am_Q} {x0 x1 x2 : Value} {p0 : Nat} (ht : τ.1 p0 = 13) (hs : st.length ≤ 4) : AW (d + 1) 83 18 [x0, x1, x2] (.ref p0 :: st) σ ρ g τ Q = AW d 269 0 [.ref p0] [] σ ρ g τ (fun r9 σ ρ g τ => AW (d + 1) 83 21 [x0, x1, x2] (r9.toList ++ st) σ ρ g τ Q) := aw_cv m83 d83_18 rfl m269 rfl rfl (by decide) en269 ok269 rfl ht hs
theorem d83_21 : decode cX10_isName 21 = .ok (.if_icmp .eq 5, 3) := by decide +kernel
theorem s83_21 {d : Nat} {st : List Value} {σ : am_I} {ρ : am_R} {g : am_J} {τ : am_T} {Q : am_Q} {x0 x1 x2 : Value} {v w : Int32} : AW d 83 21 [x0, x1, x2] (.int w :: .int v :: st) σ ρ g τ Q = if v = w then AW d 83 26 [x0, x1, x2] (st) σ ρ g τ Q else AW d 83 24 [x0, x1, x2] (st) σ ρ g τ Q := aw_br m83 d83_21 rfl rfl rfl
theorem d83_24 : decode cX10_isName 24 = .ok (.iconst 0, 1) := by decide +kernel
theorem s83_24 {d : Nat} {st : List Value} {σ : am_I} {ρ : am_R} {g : am_J} {τ : am_T} {Q : am_Q} {x0 x1 x2 : Value} : AW d 83 24 [x0, x1, x2] (st) σ ρ g τ Q = AW d 83 25 [x0, x1, x2] (.int 0 :: st) σ ρ g τ Q := aw_lc m83 d83_24 rfl rfl rfl
theorem d83_25 : decode cX10_isName 25 = .ok (.ireturn, 1) := by decide +kernel
theorem s83_25 {d : Nat} {σ : am_I} {ρ : am_R} {g : am_J} {τ : am_T} {Q : am_Q} {x0 x1 x2 : Value} {v : Int32} (hv : am_b01 v = true) : AW d 83 25 [x0, x1, x2] ([.int v]) σ ρ g τ Q = Q (some (.int v)) σ ρ g τ := aw_rz m83 d83_25 rfl hv
theorem d83_26 : decode cX10_isName 26 = .ok (.iconst 0, 1) := by decide +kernel
theorem s83_26 {d : Nat} {st : List Value} {σ : am_I} {ρ : am_R} {g : am_J} {τ : am_T} {Q : am_Q} {x0 x1 x2 : Value} : AW d 83 26 [x0, x1, x2] (st) σ ρ g τ Q = AW d 83 27 [x0, x1, x2] (.int 0 :: st) σ ρ g τ Q := aw_lc m83 d83_26 rfl rfl rfl
theorem d83_27 : decode cX10_isName 27 = .ok (.istore_n 2, 1) := by decide +kernel
theorem s83_27r {d : Nat} {st : List Value} {σ : am_I} {ρ : am_R} {g : am_J} {τ : am_T} {Q : am_Q} {x0 x2 : Value} {v : Int32} {u : Nat} : AW d 83 27 [x0, .ref u, x2] (.int v :: st) σ ρ g τ Q = AW d 83 28 [x0, .ref u, .int v] (st) σ ρ g τ Q := aw_lc m83 d83_27 rfl rfl rfl
theorem d83_28 : decode cX10_isName 28 = .ok (.iload_n 2, 1) := by decide +kernel
theorem s83_28 {d : Nat} {st : List Value} {σ : am_I} {ρ : am_R} {g : am_J} {τ : am_T} {Q : am_Q} {x0 x1 : Value} {v : Int32} : AW d 83 28 [x0, x1, .int v] (st) σ ρ g τ Q = AW d 83 29 [x0, x1, .int v] (.int v :: st) σ ρ g τ Q := aw_lc m83 d83_28 rfl rfl rfl
theorem d83_29 : decode cX10_isName 29 = .ok (.aload_n 1, 1) := by decide +kernel
theorem s83_29 {d : Nat} {st : List Value} {σ : am_I} {ρ : am_R} {g : am_J} {τ : am_T} {Q : am_Q} {x0 x2 : Value} {v : Nat} : AW d 83 29 [x0, .ref v, x2] (st) σ ρ g τ Q = AW d 83 30 [x0, .ref v, x2] (.ref v :: st) σ ρ g τ Q := aw_lc m83 d83_29 rfl rfl rfl
theorem d83_30 : decode cX10_isName 30 = .ok (.invokevirtual 61, 3) := by decide +kernel
theorem s83_30 {d : Nat} {st : List Value} {σ : am_I} {ρ : am_R} {g : am_J} {τ : am_T} {Q : am_Q} {x0 x1 x2 : Value} {p0 : Nat} (ht : τ.1 p0 = 13) (hs : st.length ≤ 4) : AW (d + 1) 83 30 [x0, x1, x2] (.ref p0 :: st) σ ρ g τ Q = AW d 269 0 [.ref p0] [] σ ρ g τ (fun r9 σ ρ g τ => AW (d + 1) 83 33 [x0, x1, x2] (r9.toList ++ st) σ ρ g τ Q) := aw_cv m83 d83_30 rfl m269 rfl rfl (by decide) en269 ok269 rfl ht hs
theorem d83_33 : decode cX10_isName 33 = .ok (.if_icmp .ge 30, 3) := by decide +kernel
theorem s83_33 {d : Nat} {st : List Value} {σ : am_I} {ρ : am_R} {g : am_J} {τ : am_T} {Q : am_Q} {x0 x1 x2 : Value} {v w : Int32} : AW d 83 33 [x0, x1, x2] (.int w :: .int v :: st) σ ρ g τ Q = if w ≤ v then AW d 83 63 [x0, x1, x2] (st) σ ρ g τ Q else AW d 83 36 [x0, x1, x2] (st) σ ρ g τ Q := aw_br m83 d83_33 rfl rfl rfl
theorem d83_36 : decode cX10_isName 36 = .ok (.aload_n 0, 1) := by decide +kernel
theorem s83_36 {d : Nat} {st : List Value} {σ : am_I} {ρ : am_R} {g : am_J} {τ : am_T} {Q : am_Q} {x1 x2 : Value} {v : Nat} : AW d 83 36 [.ref v, x1, x2] (st) σ ρ g τ Q = AW d 83 37 [.ref v, x1, x2] (.ref v :: st) σ ρ g τ Q := aw_lc m83 d83_36 rfl rfl rfl
theorem d83_37 : decode cX10_isName 37 = .ok (.getfield 9, 3) := by decide +kernel
theorem s83_37 {d : Nat} {st : List Value} {σ : am_I} {ρ : am_R} {g : am_J} {τ : am_T} {Q : am_Q} {x0 x1 x2 : Value} {a : Nat} (ht : τ.1 a = 10) : AW d 83 37 [x0, x1, x2] (.ref a :: st) σ ρ g τ Q = AW d 83 40 [x0, x1, x2] (va_rf (ρ a 0) :: st) σ ρ g τ Q := aw_gr m83 d83_37 rfl rfl rfl ht
theorem d83_40 : decode cX10_isName 40 = .ok (.aload_n 0, 1) := by decide +kernel
theorem s83_40 {d : Nat} {st : List Value} {σ : am_I} {ρ : am_R} {g : am_J} {τ : am_T} {Q : am_Q} {x1 x2 : Value} {v : Nat} : AW d 83 40 [.ref v, x1, x2] (st) σ ρ g τ Q = AW d 83 41 [.ref v, x1, x2] (.ref v :: st) σ ρ g τ Q := aw_lc m83 d83_40 rfl rfl rfl
theorem d83_41 : decode cX10_isName 41 = .ok (.getfield 19, 3) := by decide +kernel
theorem s83_41 {d : Nat} {st : List Value} {σ : am_I} {ρ : am_R} {g : am_J} {τ : am_T} {Q : am_Q} {x0 x1 x2 : Value} {a : Nat} (ht : τ.1 a = 10) : AW d 83 41 [x0, x1, x2] (.ref a :: st) σ ρ g τ Q = AW d 83 44 [x0, x1, x2] (.int (σ a 2) :: st) σ ρ g τ Q := aw_gi m83 d83_41 rfl rfl rfl ht
theorem d83_44 : decode cX10_isName 44 = .ok (.iload_n 2, 1) := by decide +kernel
theorem s83_44 {d : Nat} {st : List Value} {σ : am_I} {ρ : am_R} {g : am_J} {τ : am_T} {Q : am_Q} {x0 x1 : Value} {v : Int32} : AW d 83 44 [x0, x1, .int v] (st) σ ρ g τ Q = AW d 83 45 [x0, x1, .int v] (.int v :: st) σ ρ g τ Q := aw_lc m83 d83_44 rfl rfl rfl
theorem d83_45 : decode cX10_isName 45 = .ok (.iadd, 1) := by decide +kernel
theorem s83_45 {d : Nat} {st : List Value} {σ : am_I} {ρ : am_R} {g : am_J} {τ : am_T} {Q : am_Q} {x0 x1 x2 : Value} {v w : Int32} : AW d 83 45 [x0, x1, x2] (.int w :: .int v :: st) σ ρ g τ Q = AW d 83 46 [x0, x1, x2] (.int (v + w) :: st) σ ρ g τ Q := aw_lc m83 d83_45 rfl rfl rfl
theorem d83_46 : decode cX10_isName 46 = .ok (.baload, 1) := by decide +kernel
theorem s83_46 {d : Nat} {st : List Value} {σ : am_I} {ρ : am_R} {g : am_J} {τ : am_T} {Q : am_Q} {x0 x1 x2 : Value} {a : Nat} {j : Int32} (ht : τ.1 a = 14 ∨ τ.1 a = 17) (hj : am_inb j (τ.2.1 a) = true) : AW d 83 46 [x0, x1, x2] (.int j :: .ref a :: st) σ ρ g τ Q = AW d 83 47 [x0, x1, x2] (.int (σ a j.toNatClampNeg) :: st) σ ρ g τ Q := aw_bal m83 d83_46 rfl ht hj
theorem d83_47 : decode cX10_isName 47 = .ok (.aload_n 1, 1) := by decide +kernel
theorem s83_47 {d : Nat} {st : List Value} {σ : am_I} {ρ : am_R} {g : am_J} {τ : am_T} {Q : am_Q} {x0 x2 : Value} {v : Nat} : AW d 83 47 [x0, .ref v, x2] (st) σ ρ g τ Q = AW d 83 48 [x0, .ref v, x2] (.ref v :: st) σ ρ g τ Q := aw_lc m83 d83_47 rfl rfl rfl
theorem d83_48 : decode cX10_isName 48 = .ok (.iload_n 2, 1) := by decide +kernel
theorem s83_48 {d : Nat} {st : List Value} {σ : am_I} {ρ : am_R} {g : am_J} {τ : am_T} {Q : am_Q} {x0 x1 : Value} {v : Int32} : AW d 83 48 [x0, x1, .int v] (st) σ ρ g τ Q = AW d 83 49 [x0, x1, .int v] (.int v :: st) σ ρ g τ Q := aw_lc m83 d83_48 rfl rfl rfl
theorem d83_49 : decode cX10_isName 49 = .ok (.invokevirtual 66, 3) := by decide +kernel
theorem s83_49 {d : Nat} {st : List Value} {σ : am_I} {ρ : am_R} {g : am_J} {τ : am_T} {Q : am_Q} {x0 x1 x2 : Value} {p0 : Nat} {p1 : Int32} (ht : τ.1 p0 = 13) (hs : st.length ≤ 4) : AW (d + 1) 83 49 [x0, x1, x2] (.int p1 :: .ref p0 :: st) σ ρ g τ Q = AW d 270 0 [.ref p0, .int p1] [] σ ρ g τ (fun r9 σ ρ g τ => AW (d + 1) 83 52 [x0, x1, x2] (r9.toList ++ st) σ ρ g τ Q) := aw_cv m83 d83_49 rfl m270 rfl rfl (by decide) en270 ok270 rfl ht hs
theorem d83_52 : decode cX10_isName 52 = .ok (.if_icmp .eq 5, 3) := by decide +kernel
theorem s83_52 {d : Nat} {st : List Value} {σ : am_I} {ρ : am_R} {g : am_J} {τ : am_T} {Q : am_Q} {x0 x1 x2 : Value} {v w : Int32} : AW d 83 52 [x0, x1, x2] (.int w :: .int v :: st) σ ρ g τ Q = if v = w then AW d 83 57 [x0, x1, x2] (st) σ ρ g τ Q else AW d 83 55 [x0, x1, x2] (st) σ ρ g τ Q := aw_br m83 d83_52 rfl rfl rfl
theorem d83_55 : decode cX10_isName 55 = .ok (.iconst 0, 1) := by decide +kernel
theorem s83_55 {d : Nat} {st : List Value} {σ : am_I} {ρ : am_R} {g : am_J} {τ : am_T} {Q : am_Q} {x0 x1 x2 : Value} : AW d 83 55 [x0, x1, x2] (st) σ ρ g τ Q = AW d 83 56 [x0, x1, x2] (.int 0 :: st) σ ρ g τ Q := aw_lc m83 d83_55 rfl rfl rfl
theorem d83_56 : decode cX10_isName 56 = .ok (.ireturn, 1) := by decide +kernel
theorem s83_56 {d : Nat} {σ : am_I} {ρ : am_R} {g : am_J} {τ : am_T} {Q : am_Q} {x0 x1 x2 : Value} {v : Int32} (hv : am_b01 v = true) : AW d 83 56 [x0, x1, x2] ([.int v]) σ ρ g τ Q = Q (some (.int v)) σ ρ g τ := aw_rz m83 d83_56 rfl hv
theorem d83_57 : decode cX10_isName 57 = .ok (.iinc 2 1, 3) := by decide +kernel
theorem s83_57r {d : Nat} {st : List Value} {σ : am_I} {ρ : am_R} {g : am_J} {τ : am_T} {Q : am_Q} {x0 : Value} {v : Int32} {u : Nat} : AW d 83 57 [x0, .ref u, .int v] (st) σ ρ g τ Q = AW d 83 60 [x0, .ref u, .int (v + 1)] (st) σ ρ g τ Q := aw_lc m83 d83_57 rfl rfl rfl
theorem d83_60 : decode cX10_isName 60 = .ok (.goto (-32), 3) := by decide +kernel
theorem s83_60 {d : Nat} {st : List Value} {σ : am_I} {ρ : am_R} {g : am_J} {τ : am_T} {Q : am_Q} {x0 x1 x2 : Value} : AW d 83 60 [x0, x1, x2] (st) σ ρ g τ Q = AW d 83 28 [x0, x1, x2] (st) σ ρ g τ Q := aw_lc m83 d83_60 rfl rfl rfl
theorem d83_63 : decode cX10_isName 63 = .ok (.iconst 1, 1) := by decide +kernel
theorem s83_63 {d : Nat} {st : List Value} {σ : am_I} {ρ : am_R} {g : am_J} {τ : am_T} {Q : am_Q} {x0 x1 x2 : Value} : AW d 83 63 [x0, x1, x2] (st) σ ρ g τ Q = AW d 83 64 [x0, x1, x2] (.int 1 :: st) σ ρ g τ Q := aw_lc m83 d83_63 rfl rfl rfl
theorem d83_64 : decode cX10_isName 64 = .ok (.ireturn, 1) := by decide +kernel
theorem s83_64 {d : Nat} {σ : am_I} {ρ : am_R} {g : am_J} {τ : am_T} {Q : am_Q} {x0 x1 x2 : Value} {v : Int32} (hv : am_b01 v = true) : AW d 83 64 [x0, x1, x2] ([.int v]) σ ρ g τ Q = Q (some (.int v)) σ ρ g τ := aw_rz m83 d83_64 rfl hv
theorem d84_0 : decode cX10_isOther 0 = .ok (.aload_n 0, 1) := by decide +kernel
theorem s84_0 {d : Nat} {st : List Value} {σ : am_I} {ρ : am_R} {g : am_J} {τ : am_T} {Q : am_Q} {x1 : Value} {v : Nat} : AW d 84 0 [.ref v, x1] (st) σ ρ g τ Q = AW d 84 1 [.ref v, x1] (.ref v :: st) σ ρ g τ Q := aw_lc m84 d84_0 rfl rfl rfl
theorem d84_1 : decode cX10_isOther 1 = .ok (.getfield 25, 3) := by decide +kernel
theorem s84_1 {d : Nat} {st : List Value} {σ : am_I} {ρ : am_R} {g : am_J} {τ : am_T} {Q : am_Q} {x0 x1 : Value} {a : Nat} (ht : τ.1 a = 10) : AW d 84 1 [x0, x1] (.ref a :: st) σ ρ g τ Q = AW d 84 4 [x0, x1] (.int (σ a 4) :: st) σ ρ g τ Q := aw_gi m84 d84_1 rfl rfl rfl ht
theorem d84_4 : decode cX10_isOther 4 = .ok (.iconst 3, 1) := by decide +kernel
theorem s84_4 {d : Nat} {st : List Value} {σ : am_I} {ρ : am_R} {g : am_J} {τ : am_T} {Q : am_Q} {x0 x1 : Value} : AW d 84 4 [x0, x1] (st) σ ρ g τ Q = AW d 84 5 [x0, x1] (.int 3 :: st) σ ρ g τ Q := aw_lc m84 d84_4 rfl rfl rfl
theorem d84_5 : decode cX10_isOther 5 = .ok (.if_icmp .ne 15, 3) := by decide +kernel
theorem s84_5 {d : Nat} {st : List Value} {σ : am_I} {ρ : am_R} {g : am_J} {τ : am_T} {Q : am_Q} {x0 x1 : Value} {v w : Int32} : AW d 84 5 [x0, x1] (.int w :: .int v :: st) σ ρ g τ Q = if ¬ v = w then AW d 84 20 [x0, x1] (st) σ ρ g τ Q else AW d 84 8 [x0, x1] (st) σ ρ g τ Q := aw_br m84 d84_5 rfl rfl rfl
theorem d84_8 : decode cX10_isOther 8 = .ok (.aload_n 0, 1) := by decide +kernel
theorem s84_8 {d : Nat} {st : List Value} {σ : am_I} {ρ : am_R} {g : am_J} {τ : am_T} {Q : am_Q} {x1 : Value} {v : Nat} : AW d 84 8 [.ref v, x1] (st) σ ρ g τ Q = AW d 84 9 [.ref v, x1] (.ref v :: st) σ ρ g τ Q := aw_lc m84 d84_8 rfl rfl rfl
theorem d84_9 : decode cX10_isOther 9 = .ok (.getfield 28, 3) := by decide +kernel
theorem s84_9 {d : Nat} {st : List Value} {σ : am_I} {ρ : am_R} {g : am_J} {τ : am_T} {Q : am_Q} {x0 x1 : Value} {a : Nat} (ht : τ.1 a = 10) : AW d 84 9 [x0, x1] (.ref a :: st) σ ρ g τ Q = AW d 84 12 [x0, x1] (.int (σ a 5) :: st) σ ρ g τ Q := aw_gi m84 d84_9 rfl rfl rfl ht
theorem d84_12 : decode cX10_isOther 12 = .ok (.iload_n 1, 1) := by decide +kernel
theorem s84_12 {d : Nat} {st : List Value} {σ : am_I} {ρ : am_R} {g : am_J} {τ : am_T} {Q : am_Q} {x0 : Value} {v : Int32} : AW d 84 12 [x0, .int v] (st) σ ρ g τ Q = AW d 84 13 [x0, .int v] (.int v :: st) σ ρ g τ Q := aw_lc m84 d84_12 rfl rfl rfl
theorem d84_13 : decode cX10_isOther 13 = .ok (.if_icmp .ne 7, 3) := by decide +kernel
theorem s84_13 {d : Nat} {st : List Value} {σ : am_I} {ρ : am_R} {g : am_J} {τ : am_T} {Q : am_Q} {x0 x1 : Value} {v w : Int32} : AW d 84 13 [x0, x1] (.int w :: .int v :: st) σ ρ g τ Q = if ¬ v = w then AW d 84 20 [x0, x1] (st) σ ρ g τ Q else AW d 84 16 [x0, x1] (st) σ ρ g τ Q := aw_br m84 d84_13 rfl rfl rfl
theorem d84_16 : decode cX10_isOther 16 = .ok (.iconst 1, 1) := by decide +kernel
theorem s84_16 {d : Nat} {st : List Value} {σ : am_I} {ρ : am_R} {g : am_J} {τ : am_T} {Q : am_Q} {x0 x1 : Value} : AW d 84 16 [x0, x1] (st) σ ρ g τ Q = AW d 84 17 [x0, x1] (.int 1 :: st) σ ρ g τ Q := aw_lc m84 d84_16 rfl rfl rfl
theorem d84_17 : decode cX10_isOther 17 = .ok (.goto 4, 3) := by decide +kernel
theorem s84_17 {d : Nat} {st : List Value} {σ : am_I} {ρ : am_R} {g : am_J} {τ : am_T} {Q : am_Q} {x0 x1 : Value} : AW d 84 17 [x0, x1] (st) σ ρ g τ Q = AW d 84 21 [x0, x1] (st) σ ρ g τ Q := aw_lc m84 d84_17 rfl rfl rfl
theorem d84_20 : decode cX10_isOther 20 = .ok (.iconst 0, 1) := by decide +kernel
theorem s84_20 {d : Nat} {st : List Value} {σ : am_I} {ρ : am_R} {g : am_J} {τ : am_T} {Q : am_Q} {x0 x1 : Value} : AW d 84 20 [x0, x1] (st) σ ρ g τ Q = AW d 84 21 [x0, x1] (.int 0 :: st) σ ρ g τ Q := aw_lc m84 d84_20 rfl rfl rfl
theorem d84_21 : decode cX10_isOther 21 = .ok (.ireturn, 1) := by decide +kernel
theorem s84_21 {d : Nat} {σ : am_I} {ρ : am_R} {g : am_J} {τ : am_T} {Q : am_Q} {x0 x1 : Value} {v : Int32} (hv : am_b01 v = true) : AW d 84 21 [x0, x1] ([.int v]) σ ρ g τ Q = Q (some (.int v)) σ ρ g τ := aw_rz m84 d84_21 rfl hv
theorem d85_0 : decode cX10_isNumberUpTo 0 = .ok (.aload_n 0, 1) := by decide +kernel
theorem s85_0 {d : Nat} {st : List Value} {σ : am_I} {ρ : am_R} {g : am_J} {τ : am_T} {Q : am_Q} {x1 : Value} {v : Nat} : AW d 85 0 [.ref v, x1] (st) σ ρ g τ Q = AW d 85 1 [.ref v, x1] (.ref v :: st) σ ρ g τ Q := aw_lc m85 d85_0 rfl rfl rfl
theorem d85_1 : decode cX10_isNumberUpTo 1 = .ok (.getfield 25, 3) := by decide +kernel
theorem s85_1 {d : Nat} {st : List Value} {σ : am_I} {ρ : am_R} {g : am_J} {τ : am_T} {Q : am_Q} {x0 x1 : Value} {a : Nat} (ht : τ.1 a = 10) : AW d 85 1 [x0, x1] (.ref a :: st) σ ρ g τ Q = AW d 85 4 [x0, x1] (.int (σ a 4) :: st) σ ρ g τ Q := aw_gi m85 d85_1 rfl rfl rfl ht
theorem d85_4 : decode cX10_isNumberUpTo 4 = .ok (.iconst 2, 1) := by decide +kernel
theorem s85_4 {d : Nat} {st : List Value} {σ : am_I} {ρ : am_R} {g : am_J} {τ : am_T} {Q : am_Q} {x0 x1 : Value} : AW d 85 4 [x0, x1] (st) σ ρ g τ Q = AW d 85 5 [x0, x1] (.int 2 :: st) σ ρ g τ Q := aw_lc m85 d85_4 rfl rfl rfl
theorem d85_5 : decode cX10_isNumberUpTo 5 = .ok (.if_icmp .ne 19, 3) := by decide +kernel
theorem s85_5 {d : Nat} {st : List Value} {σ : am_I} {ρ : am_R} {g : am_J} {τ : am_T} {Q : am_Q} {x0 x1 : Value} {v w : Int32} : AW d 85 5 [x0, x1] (.int w :: .int v :: st) σ ρ g τ Q = if ¬ v = w then AW d 85 24 [x0, x1] (st) σ ρ g τ Q else AW d 85 8 [x0, x1] (st) σ ρ g τ Q := aw_br m85 d85_5 rfl rfl rfl
theorem d85_8 : decode cX10_isNumberUpTo 8 = .ok (.aload_n 0, 1) := by decide +kernel
theorem s85_8 {d : Nat} {st : List Value} {σ : am_I} {ρ : am_R} {g : am_J} {τ : am_T} {Q : am_Q} {x1 : Value} {v : Nat} : AW d 85 8 [.ref v, x1] (st) σ ρ g τ Q = AW d 85 9 [.ref v, x1] (.ref v :: st) σ ρ g τ Q := aw_lc m85 d85_8 rfl rfl rfl
theorem d85_9 : decode cX10_isNumberUpTo 9 = .ok (.getfield 28, 3) := by decide +kernel
theorem s85_9 {d : Nat} {st : List Value} {σ : am_I} {ρ : am_R} {g : am_J} {τ : am_T} {Q : am_Q} {x0 x1 : Value} {a : Nat} (ht : τ.1 a = 10) : AW d 85 9 [x0, x1] (.ref a :: st) σ ρ g τ Q = AW d 85 12 [x0, x1] (.int (σ a 5) :: st) σ ρ g τ Q := aw_gi m85 d85_9 rfl rfl rfl ht
theorem d85_12 : decode cX10_isNumberUpTo 12 = .ok (.iconst 0, 1) := by decide +kernel
theorem s85_12 {d : Nat} {st : List Value} {σ : am_I} {ρ : am_R} {g : am_J} {τ : am_T} {Q : am_Q} {x0 x1 : Value} : AW d 85 12 [x0, x1] (st) σ ρ g τ Q = AW d 85 13 [x0, x1] (.int 0 :: st) σ ρ g τ Q := aw_lc m85 d85_12 rfl rfl rfl
theorem d85_13 : decode cX10_isNumberUpTo 13 = .ok (.iload_n 1, 1) := by decide +kernel
theorem s85_13 {d : Nat} {st : List Value} {σ : am_I} {ρ : am_R} {g : am_J} {τ : am_T} {Q : am_Q} {x0 : Value} {v : Int32} : AW d 85 13 [x0, .int v] (st) σ ρ g τ Q = AW d 85 14 [x0, .int v] (.int v :: st) σ ρ g τ Q := aw_lc m85 d85_13 rfl rfl rfl
theorem d85_14 : decode cX10_isNumberUpTo 14 = .ok (.invokestatic 70, 3) := by decide +kernel
theorem s85_14 {d : Nat} {st : List Value} {σ : am_I} {ρ : am_R} {g : am_J} {τ : am_T} {Q : am_Q} {x0 x1 : Value} {p0 : Int32} {p1 : Int32} {p2 : Int32} (hs : st.length ≤ 4) : AW (d + 1) 85 14 [x0, x1] (.int p2 :: .int p1 :: .int p0 :: st) σ ρ g τ Q = AW d 100 0 [.int p0, .int p1, .int p2] [] σ ρ g τ (fun r9 σ ρ g τ => AW (d + 1) 85 17 [x0, x1] (r9.toList ++ st) σ ρ g τ Q) := aw_cn m85 d85_14 rfl (by simp only [List.length_cons]; omega) rfl rfl en100 ok100 rfl hs
theorem d85_17 : decode cX10_isNumberUpTo 17 = .ok (.ifCond .eq 7, 3) := by decide +kernel
theorem s85_17 {d : Nat} {st : List Value} {σ : am_I} {ρ : am_R} {g : am_J} {τ : am_T} {Q : am_Q} {x0 x1 : Value} {v : Int32} : AW d 85 17 [x0, x1] (.int v :: st) σ ρ g τ Q = if v = 0 then AW d 85 24 [x0, x1] (st) σ ρ g τ Q else AW d 85 20 [x0, x1] (st) σ ρ g τ Q := aw_br m85 d85_17 rfl rfl rfl
theorem d85_20 : decode cX10_isNumberUpTo 20 = .ok (.iconst 1, 1) := by decide +kernel
theorem s85_20 {d : Nat} {st : List Value} {σ : am_I} {ρ : am_R} {g : am_J} {τ : am_T} {Q : am_Q} {x0 x1 : Value} : AW d 85 20 [x0, x1] (st) σ ρ g τ Q = AW d 85 21 [x0, x1] (.int 1 :: st) σ ρ g τ Q := aw_lc m85 d85_20 rfl rfl rfl
theorem d85_21 : decode cX10_isNumberUpTo 21 = .ok (.goto 4, 3) := by decide +kernel
theorem s85_21 {d : Nat} {st : List Value} {σ : am_I} {ρ : am_R} {g : am_J} {τ : am_T} {Q : am_Q} {x0 x1 : Value} : AW d 85 21 [x0, x1] (st) σ ρ g τ Q = AW d 85 25 [x0, x1] (st) σ ρ g τ Q := aw_lc m85 d85_21 rfl rfl rfl
theorem d85_24 : decode cX10_isNumberUpTo 24 = .ok (.iconst 0, 1) := by decide +kernel
theorem s85_24 {d : Nat} {st : List Value} {σ : am_I} {ρ : am_R} {g : am_J} {τ : am_T} {Q : am_Q} {x0 x1 : Value} : AW d 85 24 [x0, x1] (st) σ ρ g τ Q = AW d 85 25 [x0, x1] (.int 0 :: st) σ ρ g τ Q := aw_lc m85 d85_24 rfl rfl rfl
theorem d85_25 : decode cX10_isNumberUpTo 25 = .ok (.ireturn, 1) := by decide +kernel
theorem s85_25 {d : Nat} {σ : am_I} {ρ : am_R} {g : am_J} {τ : am_T} {Q : am_Q} {x0 x1 : Value} {v : Int32} (hv : am_b01 v = true) : AW d 85 25 [x0, x1] ([.int v]) σ ρ g τ Q = Q (some (.int v)) σ ρ g τ := aw_rz m85 d85_25 rfl hv
theorem d86_0 : decode cX10_readLine 0 = .ok (.aload_n 0, 1) := by decide +kernel
theorem s86_0 {d : Nat} {st : List Value} {σ : am_I} {ρ : am_R} {g : am_J} {τ : am_T} {Q : am_Q} {x1 x2 x3 x4 : Value} {v : Nat} : AW d 86 0 [.ref v, x1, x2, x3, x4] (st) σ ρ g τ Q = AW d 86 1 [.ref v, x1, x2, x3, x4] (.ref v :: st) σ ρ g τ Q := aw_lc m86 d86_0 rfl rfl rfl
theorem s86_0n {d : Nat} {st : List Value} {σ : am_I} {ρ : am_R} {g : am_J} {τ : am_T} {Q : am_Q} {x1 x2 x3 x4 : Value} : AW d 86 0 [.null, x1, x2, x3, x4] (st) σ ρ g τ Q = AW d 86 1 [.null, x1, x2, x3, x4] (.null :: st) σ ρ g τ Q := aw_lc m86 d86_0 rfl rfl rfl
theorem d86_1 : decode cX10_readLine 1 = .ok (.invokevirtual 74, 3) := by decide +kernel
theorem s86_1 {d : Nat} {st : List Value} {σ : am_I} {ρ : am_R} {g : am_J} {τ : am_T} {Q : am_Q} {x0 x1 x2 x3 x4 : Value} {p0 : Nat} (ht : τ.1 p0 = 10) (hs : st.length ≤ 4) : AW (d + 1) 86 1 [x0, x1, x2, x3, x4] (.ref p0 :: st) σ ρ g τ Q = AW d 88 0 [.ref p0] [] σ ρ g τ (fun r9 σ ρ g τ => AW (d + 1) 86 4 [x0, x1, x2, x3, x4] (r9.toList ++ st) σ ρ g τ Q) := aw_cv m86 d86_1 rfl m88 rfl rfl (by decide) en88 ok88 rfl ht hs
theorem d86_4 : decode cX10_readLine 4 = .ok (.istore_n 1, 1) := by decide +kernel
theorem s86_4r {d : Nat} {st : List Value} {σ : am_I} {ρ : am_R} {g : am_J} {τ : am_T} {Q : am_Q} {x1 x2 x3 x4 : Value} {v : Int32} {u : Nat} : AW d 86 4 [.ref u, x1, x2, x3, x4] (.int v :: st) σ ρ g τ Q = AW d 86 5 [.ref u, .int v, x2, x3, x4] (st) σ ρ g τ Q := aw_lc m86 d86_4 rfl rfl rfl
theorem d86_5 : decode cX10_readLine 5 = .ok (.iload_n 1, 1) := by decide +kernel
theorem s86_5 {d : Nat} {st : List Value} {σ : am_I} {ρ : am_R} {g : am_J} {τ : am_T} {Q : am_Q} {x0 x2 x3 x4 : Value} {v : Int32} : AW d 86 5 [x0, .int v, x2, x3, x4] (st) σ ρ g τ Q = AW d 86 6 [x0, .int v, x2, x3, x4] (.int v :: st) σ ρ g τ Q := aw_lc m86 d86_5 rfl rfl rfl
theorem d86_6 : decode cX10_readLine 6 = .ok (.ifCond .lt 12, 3) := by decide +kernel
theorem s86_6 {d : Nat} {st : List Value} {σ : am_I} {ρ : am_R} {g : am_J} {τ : am_T} {Q : am_Q} {x0 x1 x2 x3 x4 : Value} {v : Int32} : AW d 86 6 [x0, x1, x2, x3, x4] (.int v :: st) σ ρ g τ Q = if v < 0 then AW d 86 18 [x0, x1, x2, x3, x4] (st) σ ρ g τ Q else AW d 86 9 [x0, x1, x2, x3, x4] (st) σ ρ g τ Q := aw_br m86 d86_6 rfl rfl rfl
theorem d86_9 : decode cX10_readLine 9 = .ok (.aload_n 0, 1) := by decide +kernel
theorem s86_9 {d : Nat} {st : List Value} {σ : am_I} {ρ : am_R} {g : am_J} {τ : am_T} {Q : am_Q} {x1 x2 x3 x4 : Value} {v : Nat} : AW d 86 9 [.ref v, x1, x2, x3, x4] (st) σ ρ g τ Q = AW d 86 10 [.ref v, x1, x2, x3, x4] (.ref v :: st) σ ρ g τ Q := aw_lc m86 d86_9 rfl rfl rfl
theorem s86_9n {d : Nat} {st : List Value} {σ : am_I} {ρ : am_R} {g : am_J} {τ : am_T} {Q : am_Q} {x1 x2 x3 x4 : Value} : AW d 86 9 [.null, x1, x2, x3, x4] (st) σ ρ g τ Q = AW d 86 10 [.null, x1, x2, x3, x4] (.null :: st) σ ρ g τ Q := aw_lc m86 d86_9 rfl rfl rfl
theorem d86_10 : decode cX10_readLine 10 = .ok (.getfield 44, 3) := by decide +kernel
theorem s86_10 {d : Nat} {st : List Value} {σ : am_I} {ρ : am_R} {g : am_J} {τ : am_T} {Q : am_Q} {x0 x1 x2 x3 x4 : Value} {a : Nat} (ht : τ.1 a = 10) : AW d 86 10 [x0, x1, x2, x3, x4] (.ref a :: st) σ ρ g τ Q = AW d 86 13 [x0, x1, x2, x3, x4] (.int (σ a 9) :: st) σ ρ g τ Q := aw_gi m86 d86_10 rfl rfl rfl ht
theorem d86_13 : decode cX10_readLine 13 = .ok (.bipush 10, 2) := by decide +kernel
theorem s86_13 {d : Nat} {st : List Value} {σ : am_I} {ρ : am_R} {g : am_J} {τ : am_T} {Q : am_Q} {x0 x1 x2 x3 x4 : Value} : AW d 86 13 [x0, x1, x2, x3, x4] (st) σ ρ g τ Q = AW d 86 15 [x0, x1, x2, x3, x4] (.int 10 :: st) σ ρ g τ Q := aw_lc m86 d86_13 rfl rfl rfl
theorem d86_15 : decode cX10_readLine 15 = .ok (.if_icmp .lt 5, 3) := by decide +kernel
theorem s86_15 {d : Nat} {st : List Value} {σ : am_I} {ρ : am_R} {g : am_J} {τ : am_T} {Q : am_Q} {x0 x1 x2 x3 x4 : Value} {v w : Int32} : AW d 86 15 [x0, x1, x2, x3, x4] (.int w :: .int v :: st) σ ρ g τ Q = if v < w then AW d 86 20 [x0, x1, x2, x3, x4] (st) σ ρ g τ Q else AW d 86 18 [x0, x1, x2, x3, x4] (st) σ ρ g τ Q := aw_br m86 d86_15 rfl rfl rfl
theorem d86_18 : decode cX10_readLine 18 = .ok (.iconst 0, 1) := by decide +kernel
theorem s86_18 {d : Nat} {st : List Value} {σ : am_I} {ρ : am_R} {g : am_J} {τ : am_T} {Q : am_Q} {x0 x1 x2 x3 x4 : Value} : AW d 86 18 [x0, x1, x2, x3, x4] (st) σ ρ g τ Q = AW d 86 19 [x0, x1, x2, x3, x4] (.int 0 :: st) σ ρ g τ Q := aw_lc m86 d86_18 rfl rfl rfl
theorem d86_19 : decode cX10_readLine 19 = .ok (.ireturn, 1) := by decide +kernel
theorem s86_19 {d : Nat} {σ : am_I} {ρ : am_R} {g : am_J} {τ : am_T} {Q : am_Q} {x0 x1 x2 x3 x4 : Value} {v : Int32} (hv : am_b01 v = true) : AW d 86 19 [x0, x1, x2, x3, x4] ([.int v]) σ ρ g τ Q = Q (some (.int v)) σ ρ g τ := aw_rz m86 d86_19 rfl hv
theorem d86_20 : decode cX10_readLine 20 = .ok (.aload_n 0, 1) := by decide +kernel
theorem s86_20 {d : Nat} {st : List Value} {σ : am_I} {ρ : am_R} {g : am_J} {τ : am_T} {Q : am_Q} {x1 x2 x3 x4 : Value} {v : Nat} : AW d 86 20 [.ref v, x1, x2, x3, x4] (st) σ ρ g τ Q = AW d 86 21 [.ref v, x1, x2, x3, x4] (.ref v :: st) σ ρ g τ Q := aw_lc m86 d86_20 rfl rfl rfl
theorem s86_20n {d : Nat} {st : List Value} {σ : am_I} {ρ : am_R} {g : am_J} {τ : am_T} {Q : am_Q} {x1 x2 x3 x4 : Value} : AW d 86 20 [.null, x1, x2, x3, x4] (st) σ ρ g τ Q = AW d 86 21 [.null, x1, x2, x3, x4] (.null :: st) σ ρ g τ Q := aw_lc m86 d86_20 rfl rfl rfl
theorem d86_21 : decode cX10_readLine 21 = .ok (.invokevirtual 47, 3) := by decide +kernel
theorem s86_21 {d : Nat} {st : List Value} {σ : am_I} {ρ : am_R} {g : am_J} {τ : am_T} {Q : am_Q} {x0 x1 x2 x3 x4 : Value} {p0 : Nat} (ht : τ.1 p0 = 10) (hs : st.length ≤ 4) : AW (d + 1) 86 21 [x0, x1, x2, x3, x4] (.ref p0 :: st) σ ρ g τ Q = AW d 80 0 [.ref p0, am_jk] [] σ ρ g τ (fun r9 σ ρ g τ => AW (d + 1) 86 24 [x0, x1, x2, x3, x4] (r9.toList ++ st) σ ρ g τ Q) := aw_cv m86 d86_21 rfl m80 rfl rfl (by decide) en80 ok80 rfl ht hs
theorem d86_24 : decode cX10_readLine 24 = .ok (.bipush (-9), 2) := by decide +kernel
theorem s86_24 {d : Nat} {st : List Value} {σ : am_I} {ρ : am_R} {g : am_J} {τ : am_T} {Q : am_Q} {x0 x1 x2 x3 x4 : Value} : AW d 86 24 [x0, x1, x2, x3, x4] (st) σ ρ g τ Q = AW d 86 26 [x0, x1, x2, x3, x4] (.int (-9) :: st) σ ρ g τ Q := aw_lc m86 d86_24 rfl rfl rfl
theorem d86_26 : decode cX10_readLine 26 = .ok (.istore_n 2, 1) := by decide +kernel
theorem s86_26 {d : Nat} {st : List Value} {σ : am_I} {ρ : am_R} {g : am_J} {τ : am_T} {Q : am_Q} {x0 x2 x3 x4 : Value} {v : Int32} {u : Int32} : AW d 86 26 [x0, .int u, x2, x3, x4] (.int v :: st) σ ρ g τ Q = AW d 86 27 [x0, .int u, .int v, x3, x4] (st) σ ρ g τ Q := aw_lc m86 d86_26 rfl rfl rfl
theorem d86_27 : decode cX10_readLine 27 = .ok (.iload_n 1, 1) := by decide +kernel
theorem s86_27 {d : Nat} {st : List Value} {σ : am_I} {ρ : am_R} {g : am_J} {τ : am_T} {Q : am_Q} {x0 x2 x3 x4 : Value} {v : Int32} : AW d 86 27 [x0, .int v, x2, x3, x4] (st) σ ρ g τ Q = AW d 86 28 [x0, .int v, x2, x3, x4] (.int v :: st) σ ρ g τ Q := aw_lc m86 d86_27 rfl rfl rfl
theorem d86_28 : decode cX10_readLine 28 = .ok (.iconst 2, 1) := by decide +kernel
theorem s86_28 {d : Nat} {st : List Value} {σ : am_I} {ρ : am_R} {g : am_J} {τ : am_T} {Q : am_Q} {x0 x1 x2 x3 x4 : Value} : AW d 86 28 [x0, x1, x2, x3, x4] (st) σ ρ g τ Q = AW d 86 29 [x0, x1, x2, x3, x4] (.int 2 :: st) σ ρ g τ Q := aw_lc m86 d86_28 rfl rfl rfl
theorem d86_29 : decode cX10_readLine 29 = .ok (.if_icmp .eq 25, 3) := by decide +kernel
theorem s86_29 {d : Nat} {st : List Value} {σ : am_I} {ρ : am_R} {g : am_J} {τ : am_T} {Q : am_Q} {x0 x1 x2 x3 x4 : Value} {v w : Int32} : AW d 86 29 [x0, x1, x2, x3, x4] (.int w :: .int v :: st) σ ρ g τ Q = if v = w then AW d 86 54 [x0, x1, x2, x3, x4] (st) σ ρ g τ Q else AW d 86 32 [x0, x1, x2, x3, x4] (st) σ ρ g τ Q := aw_br m86 d86_29 rfl rfl rfl
theorem d86_32 : decode cX10_readLine 32 = .ok (.aload_n 0, 1) := by decide +kernel
theorem s86_32 {d : Nat} {st : List Value} {σ : am_I} {ρ : am_R} {g : am_J} {τ : am_T} {Q : am_Q} {x1 x2 x3 x4 : Value} {v : Nat} : AW d 86 32 [.ref v, x1, x2, x3, x4] (st) σ ρ g τ Q = AW d 86 33 [.ref v, x1, x2, x3, x4] (.ref v :: st) σ ρ g τ Q := aw_lc m86 d86_32 rfl rfl rfl
theorem s86_32n {d : Nat} {st : List Value} {σ : am_I} {ρ : am_R} {g : am_J} {τ : am_T} {Q : am_Q} {x1 x2 x3 x4 : Value} : AW d 86 32 [.null, x1, x2, x3, x4] (st) σ ρ g τ Q = AW d 86 33 [.null, x1, x2, x3, x4] (.null :: st) σ ρ g τ Q := aw_lc m86 d86_32 rfl rfl rfl
theorem d86_33 : decode cX10_readLine 33 = .ok (.iload_n 1, 1) := by decide +kernel
theorem s86_33 {d : Nat} {st : List Value} {σ : am_I} {ρ : am_R} {g : am_J} {τ : am_T} {Q : am_Q} {x0 x2 x3 x4 : Value} {v : Int32} : AW d 86 33 [x0, .int v, x2, x3, x4] (st) σ ρ g τ Q = AW d 86 34 [x0, .int v, x2, x3, x4] (.int v :: st) σ ρ g τ Q := aw_lc m86 d86_33 rfl rfl rfl
theorem d86_34 : decode cX10_readLine 34 = .ok (.invokestatic 77, 3) := by decide +kernel
theorem s86_34 {d : Nat} {st : List Value} {σ : am_I} {ρ : am_R} {g : am_J} {τ : am_T} {Q : am_Q} {x0 x1 x2 x3 x4 : Value} {p0 : Int32} (hs : st.length ≤ 4) : AW (d + 1) 86 34 [x0, x1, x2, x3, x4] (.int p0 :: st) σ ρ g τ Q = AW d 89 0 [.int p0] [] σ ρ g τ (fun r9 σ ρ g τ => AW (d + 1) 86 37 [x0, x1, x2, x3, x4] (r9.toList ++ st) σ ρ g τ Q) := aw_cs m86 d86_34 rfl (by simp only [List.length_cons]; omega) rfl rfl en89 ok89 rfl hs
theorem d86_37 : decode cX10_readLine 37 = .ok (.invokevirtual 81, 3) := by decide +kernel
theorem s86_37 {d : Nat} {st : List Value} {σ : am_I} {ρ : am_R} {g : am_J} {τ : am_T} {Q : am_Q} {x0 x1 x2 x3 x4 : Value} {p0 : Nat} {p1 : Int32} (ht : τ.1 p0 = 10) (hs : st.length ≤ 4) : AW (d + 1) 86 37 [x0, x1, x2, x3, x4] (.int p1 :: .ref p0 :: st) σ ρ g τ Q = AW d 85 0 [.ref p0, .int p1] [] σ ρ g τ (fun r9 σ ρ g τ => AW (d + 1) 86 40 [x0, x1, x2, x3, x4] (r9.toList ++ st) σ ρ g τ Q) := aw_cv m86 d86_37 rfl m85 rfl rfl (by decide) en85 ok85 rfl ht hs
theorem d86_40 : decode cX10_readLine 40 = .ok (.ifCond .ne 5, 3) := by decide +kernel
theorem s86_40 {d : Nat} {st : List Value} {σ : am_I} {ρ : am_R} {g : am_J} {τ : am_T} {Q : am_Q} {x0 x1 x2 x3 x4 : Value} {v : Int32} : AW d 86 40 [x0, x1, x2, x3, x4] (.int v :: st) σ ρ g τ Q = if ¬ v = 0 then AW d 86 45 [x0, x1, x2, x3, x4] (st) σ ρ g τ Q else AW d 86 43 [x0, x1, x2, x3, x4] (st) σ ρ g τ Q := aw_br m86 d86_40 rfl rfl rfl
theorem d86_43 : decode cX10_readLine 43 = .ok (.iconst 0, 1) := by decide +kernel
theorem s86_43 {d : Nat} {st : List Value} {σ : am_I} {ρ : am_R} {g : am_J} {τ : am_T} {Q : am_Q} {x0 x1 x2 x3 x4 : Value} : AW d 86 43 [x0, x1, x2, x3, x4] (st) σ ρ g τ Q = AW d 86 44 [x0, x1, x2, x3, x4] (.int 0 :: st) σ ρ g τ Q := aw_lc m86 d86_43 rfl rfl rfl
theorem d86_44 : decode cX10_readLine 44 = .ok (.ireturn, 1) := by decide +kernel
theorem s86_44 {d : Nat} {σ : am_I} {ρ : am_R} {g : am_J} {τ : am_T} {Q : am_Q} {x0 x1 x2 x3 x4 : Value} {v : Int32} (hv : am_b01 v = true) : AW d 86 44 [x0, x1, x2, x3, x4] ([.int v]) σ ρ g τ Q = Q (some (.int v)) σ ρ g τ := aw_rz m86 d86_44 rfl hv
theorem d86_45 : decode cX10_readLine 45 = .ok (.aload_n 0, 1) := by decide +kernel
theorem s86_45 {d : Nat} {st : List Value} {σ : am_I} {ρ : am_R} {g : am_J} {τ : am_T} {Q : am_Q} {x1 x2 x3 x4 : Value} {v : Nat} : AW d 86 45 [.ref v, x1, x2, x3, x4] (st) σ ρ g τ Q = AW d 86 46 [.ref v, x1, x2, x3, x4] (.ref v :: st) σ ρ g τ Q := aw_lc m86 d86_45 rfl rfl rfl
theorem s86_45n {d : Nat} {st : List Value} {σ : am_I} {ρ : am_R} {g : am_J} {τ : am_T} {Q : am_Q} {x1 x2 x3 x4 : Value} : AW d 86 45 [.null, x1, x2, x3, x4] (st) σ ρ g τ Q = AW d 86 46 [.null, x1, x2, x3, x4] (.null :: st) σ ρ g τ Q := aw_lc m86 d86_45 rfl rfl rfl
theorem d86_46 : decode cX10_readLine 46 = .ok (.getfield 28, 3) := by decide +kernel
theorem s86_46 {d : Nat} {st : List Value} {σ : am_I} {ρ : am_R} {g : am_J} {τ : am_T} {Q : am_Q} {x0 x1 x2 x3 x4 : Value} {a : Nat} (ht : τ.1 a = 10) : AW d 86 46 [x0, x1, x2, x3, x4] (.ref a :: st) σ ρ g τ Q = AW d 86 49 [x0, x1, x2, x3, x4] (.int (σ a 5) :: st) σ ρ g τ Q := aw_gi m86 d86_46 rfl rfl rfl ht
theorem d86_49 : decode cX10_readLine 49 = .ok (.istore_n 2, 1) := by decide +kernel
theorem s86_49 {d : Nat} {st : List Value} {σ : am_I} {ρ : am_R} {g : am_J} {τ : am_T} {Q : am_Q} {x0 x2 x3 x4 : Value} {v : Int32} {u : Int32} : AW d 86 49 [x0, .int u, x2, x3, x4] (.int v :: st) σ ρ g τ Q = AW d 86 50 [x0, .int u, .int v, x3, x4] (st) σ ρ g τ Q := aw_lc m86 d86_49 rfl rfl rfl
theorem d86_50 : decode cX10_readLine 50 = .ok (.aload_n 0, 1) := by decide +kernel
theorem s86_50 {d : Nat} {st : List Value} {σ : am_I} {ρ : am_R} {g : am_J} {τ : am_T} {Q : am_Q} {x1 x2 x3 x4 : Value} {v : Nat} : AW d 86 50 [.ref v, x1, x2, x3, x4] (st) σ ρ g τ Q = AW d 86 51 [.ref v, x1, x2, x3, x4] (.ref v :: st) σ ρ g τ Q := aw_lc m86 d86_50 rfl rfl rfl
theorem s86_50n {d : Nat} {st : List Value} {σ : am_I} {ρ : am_R} {g : am_J} {τ : am_T} {Q : am_Q} {x1 x2 x3 x4 : Value} : AW d 86 50 [.null, x1, x2, x3, x4] (st) σ ρ g τ Q = AW d 86 51 [.null, x1, x2, x3, x4] (.null :: st) σ ρ g τ Q := aw_lc m86 d86_50 rfl rfl rfl
theorem d86_51 : decode cX10_readLine 51 = .ok (.invokevirtual 47, 3) := by decide +kernel
theorem s86_51 {d : Nat} {st : List Value} {σ : am_I} {ρ : am_R} {g : am_J} {τ : am_T} {Q : am_Q} {x0 x1 x2 x3 x4 : Value} {p0 : Nat} (ht : τ.1 p0 = 10) (hs : st.length ≤ 4) : AW (d + 1) 86 51 [x0, x1, x2, x3, x4] (.ref p0 :: st) σ ρ g τ Q = AW d 80 0 [.ref p0, am_jk] [] σ ρ g τ (fun r9 σ ρ g τ => AW (d + 1) 86 54 [x0, x1, x2, x3, x4] (r9.toList ++ st) σ ρ g τ Q) := aw_cv m86 d86_51 rfl m80 rfl rfl (by decide) en80 ok80 rfl ht hs
theorem d86_54 : decode cX10_readLine 54 = .ok (.iload_n 1, 1) := by decide +kernel
theorem s86_54 {d : Nat} {st : List Value} {σ : am_I} {ρ : am_R} {g : am_J} {τ : am_T} {Q : am_Q} {x0 x2 x3 x4 : Value} {v : Int32} : AW d 86 54 [x0, .int v, x2, x3, x4] (st) σ ρ g τ Q = AW d 86 55 [x0, .int v, x2, x3, x4] (.int v :: st) σ ρ g τ Q := aw_lc m86 d86_54 rfl rfl rfl
theorem d86_55 : decode cX10_readLine 55 = .ok (.iconst 3, 1) := by decide +kernel
theorem s86_55 {d : Nat} {st : List Value} {σ : am_I} {ρ : am_R} {g : am_J} {τ : am_T} {Q : am_Q} {x0 x1 x2 x3 x4 : Value} : AW d 86 55 [x0, x1, x2, x3, x4] (st) σ ρ g τ Q = AW d 86 56 [x0, x1, x2, x3, x4] (.int 3 :: st) σ ρ g τ Q := aw_lc m86 d86_55 rfl rfl rfl
theorem d86_56 : decode cX10_readLine 56 = .ok (.if_icmp .ne 10, 3) := by decide +kernel
theorem s86_56 {d : Nat} {st : List Value} {σ : am_I} {ρ : am_R} {g : am_J} {τ : am_T} {Q : am_Q} {x0 x1 x2 x3 x4 : Value} {v w : Int32} : AW d 86 56 [x0, x1, x2, x3, x4] (.int w :: .int v :: st) σ ρ g τ Q = if ¬ v = w then AW d 86 66 [x0, x1, x2, x3, x4] (st) σ ρ g τ Q else AW d 86 59 [x0, x1, x2, x3, x4] (st) σ ρ g τ Q := aw_br m86 d86_56 rfl rfl rfl
theorem d86_59 : decode cX10_readLine 59 = .ok (.aload_n 0, 1) := by decide +kernel
theorem s86_59 {d : Nat} {st : List Value} {σ : am_I} {ρ : am_R} {g : am_J} {τ : am_T} {Q : am_Q} {x1 x2 x3 x4 : Value} {v : Nat} : AW d 86 59 [.ref v, x1, x2, x3, x4] (st) σ ρ g τ Q = AW d 86 60 [.ref v, x1, x2, x3, x4] (.ref v :: st) σ ρ g τ Q := aw_lc m86 d86_59 rfl rfl rfl
theorem s86_59n {d : Nat} {st : List Value} {σ : am_I} {ρ : am_R} {g : am_J} {τ : am_T} {Q : am_Q} {x1 x2 x3 x4 : Value} : AW d 86 59 [.null, x1, x2, x3, x4] (st) σ ρ g τ Q = AW d 86 60 [.null, x1, x2, x3, x4] (.null :: st) σ ρ g τ Q := aw_lc m86 d86_59 rfl rfl rfl
theorem d86_60 : decode cX10_readLine 60 = .ok (.invokevirtual 85, 3) := by decide +kernel
theorem s86_60 {d : Nat} {st : List Value} {σ : am_I} {ρ : am_R} {g : am_J} {τ : am_T} {Q : am_Q} {x0 x1 x2 x3 x4 : Value} {p0 : Nat} (ht : τ.1 p0 = 10) (hs : st.length ≤ 4) : AW (d + 1) 86 60 [x0, x1, x2, x3, x4] (.ref p0 :: st) σ ρ g τ Q = AW d 90 0 [.ref p0, am_jk] [] σ ρ g τ (fun r9 σ ρ g τ => AW (d + 1) 86 63 [x0, x1, x2, x3, x4] (r9.toList ++ st) σ ρ g τ Q) := aw_cv m86 d86_60 rfl m90 rfl rfl (by decide) en90 ok90 rfl ht hs
theorem d86_63 : decode cX10_readLine 63 = .ok (.goto 5, 3) := by decide +kernel
theorem s86_63 {d : Nat} {st : List Value} {σ : am_I} {ρ : am_R} {g : am_J} {τ : am_T} {Q : am_Q} {x0 x1 x2 x3 x4 : Value} : AW d 86 63 [x0, x1, x2, x3, x4] (st) σ ρ g τ Q = AW d 86 68 [x0, x1, x2, x3, x4] (st) σ ρ g τ Q := aw_lc m86 d86_63 rfl rfl rfl
theorem d86_66 : decode cX10_readLine 66 = .ok (.bipush (-9), 2) := by decide +kernel
theorem s86_66 {d : Nat} {st : List Value} {σ : am_I} {ρ : am_R} {g : am_J} {τ : am_T} {Q : am_Q} {x0 x1 x2 x3 x4 : Value} : AW d 86 66 [x0, x1, x2, x3, x4] (st) σ ρ g τ Q = AW d 86 68 [x0, x1, x2, x3, x4] (.int (-9) :: st) σ ρ g τ Q := aw_lc m86 d86_66 rfl rfl rfl
theorem d86_68 : decode cX10_readLine 68 = .ok (.istore_n 3, 1) := by decide +kernel
theorem s86_68 {d : Nat} {st : List Value} {σ : am_I} {ρ : am_R} {g : am_J} {τ : am_T} {Q : am_Q} {x0 x1 x3 x4 : Value} {v : Int32} {u : Int32} : AW d 86 68 [x0, x1, .int u, x3, x4] (.int v :: st) σ ρ g τ Q = AW d 86 69 [x0, x1, .int u, .int v, x4] (st) σ ρ g τ Q := aw_lc m86 d86_68 rfl rfl rfl
theorem d86_69 : decode cX10_readLine 69 = .ok (.iload_n 1, 1) := by decide +kernel
theorem s86_69 {d : Nat} {st : List Value} {σ : am_I} {ρ : am_R} {g : am_J} {τ : am_T} {Q : am_Q} {x0 x2 x3 x4 : Value} {v : Int32} : AW d 86 69 [x0, .int v, x2, x3, x4] (st) σ ρ g τ Q = AW d 86 70 [x0, .int v, x2, x3, x4] (.int v :: st) σ ρ g τ Q := aw_lc m86 d86_69 rfl rfl rfl
theorem d86_70 : decode cX10_readLine 70 = .ok (.iconst 3, 1) := by decide +kernel
theorem s86_70 {d : Nat} {st : List Value} {σ : am_I} {ρ : am_R} {g : am_J} {τ : am_T} {Q : am_Q} {x0 x1 x2 x3 x4 : Value} : AW d 86 70 [x0, x1, x2, x3, x4] (st) σ ρ g τ Q = AW d 86 71 [x0, x1, x2, x3, x4] (.int 3 :: st) σ ρ g τ Q := aw_lc m86 d86_70 rfl rfl rfl
theorem d86_71 : decode cX10_readLine 71 = .ok (.if_icmp .ne 9, 3) := by decide +kernel
theorem s86_71 {d : Nat} {st : List Value} {σ : am_I} {ρ : am_R} {g : am_J} {τ : am_T} {Q : am_Q} {x0 x1 x2 x3 x4 : Value} {v w : Int32} : AW d 86 71 [x0, x1, x2, x3, x4] (.int w :: .int v :: st) σ ρ g τ Q = if ¬ v = w then AW d 86 80 [x0, x1, x2, x3, x4] (st) σ ρ g τ Q else AW d 86 74 [x0, x1, x2, x3, x4] (st) σ ρ g τ Q := aw_br m86 d86_71 rfl rfl rfl
theorem d86_74 : decode cX10_readLine 74 = .ok (.iload_n 3, 1) := by decide +kernel
theorem s86_74 {d : Nat} {st : List Value} {σ : am_I} {ρ : am_R} {g : am_J} {τ : am_T} {Q : am_Q} {x0 x1 x2 x4 : Value} {v : Int32} : AW d 86 74 [x0, x1, x2, .int v, x4] (st) σ ρ g τ Q = AW d 86 75 [x0, x1, x2, .int v, x4] (.int v :: st) σ ρ g τ Q := aw_lc m86 d86_74 rfl rfl rfl
theorem d86_75 : decode cX10_readLine 75 = .ok (.ifCond .ge 5, 3) := by decide +kernel
theorem s86_75 {d : Nat} {st : List Value} {σ : am_I} {ρ : am_R} {g : am_J} {τ : am_T} {Q : am_Q} {x0 x1 x2 x3 x4 : Value} {v : Int32} : AW d 86 75 [x0, x1, x2, x3, x4] (.int v :: st) σ ρ g τ Q = if 0 ≤ v then AW d 86 80 [x0, x1, x2, x3, x4] (st) σ ρ g τ Q else AW d 86 78 [x0, x1, x2, x3, x4] (st) σ ρ g τ Q := aw_br m86 d86_75 rfl rfl rfl
theorem d86_78 : decode cX10_readLine 78 = .ok (.iconst 0, 1) := by decide +kernel
theorem s86_78 {d : Nat} {st : List Value} {σ : am_I} {ρ : am_R} {g : am_J} {τ : am_T} {Q : am_Q} {x0 x1 x2 x3 x4 : Value} : AW d 86 78 [x0, x1, x2, x3, x4] (st) σ ρ g τ Q = AW d 86 79 [x0, x1, x2, x3, x4] (.int 0 :: st) σ ρ g τ Q := aw_lc m86 d86_78 rfl rfl rfl
theorem d86_79 : decode cX10_readLine 79 = .ok (.ireturn, 1) := by decide +kernel
theorem s86_79 {d : Nat} {σ : am_I} {ρ : am_R} {g : am_J} {τ : am_T} {Q : am_Q} {x0 x1 x2 x3 x4 : Value} {v : Int32} (hv : am_b01 v = true) : AW d 86 79 [x0, x1, x2, x3, x4] ([.int v]) σ ρ g τ Q = Q (some (.int v)) σ ρ g τ := aw_rz m86 d86_79 rfl hv
theorem d86_80 : decode cX10_readLine 80 = .ok (.aload_n 0, 1) := by decide +kernel
theorem s86_80 {d : Nat} {st : List Value} {σ : am_I} {ρ : am_R} {g : am_J} {τ : am_T} {Q : am_Q} {x1 x2 x3 x4 : Value} {v : Nat} : AW d 86 80 [.ref v, x1, x2, x3, x4] (st) σ ρ g τ Q = AW d 86 81 [.ref v, x1, x2, x3, x4] (.ref v :: st) σ ρ g τ Q := aw_lc m86 d86_80 rfl rfl rfl
theorem s86_80n {d : Nat} {st : List Value} {σ : am_I} {ρ : am_R} {g : am_J} {τ : am_T} {Q : am_Q} {x1 x2 x3 x4 : Value} : AW d 86 80 [.null, x1, x2, x3, x4] (st) σ ρ g τ Q = AW d 86 81 [.null, x1, x2, x3, x4] (.null :: st) σ ρ g τ Q := aw_lc m86 d86_80 rfl rfl rfl
theorem d86_81 : decode cX10_readLine 81 = .ok (.iconst 0, 1) := by decide +kernel
theorem s86_81 {d : Nat} {st : List Value} {σ : am_I} {ρ : am_R} {g : am_J} {τ : am_T} {Q : am_Q} {x0 x1 x2 x3 x4 : Value} : AW d 86 81 [x0, x1, x2, x3, x4] (st) σ ρ g τ Q = AW d 86 82 [x0, x1, x2, x3, x4] (.int 0 :: st) σ ρ g τ Q := aw_lc m86 d86_81 rfl rfl rfl
theorem d86_82 : decode cX10_readLine 82 = .ok (.putfield 35, 3) := by decide +kernel
theorem s86_82 {d : Nat} {st : List Value} {σ : am_I} {ρ : am_R} {g : am_J} {τ : am_T} {Q : am_Q} {x0 x1 x2 x3 x4 : Value} {a : Nat} {v : Int32} (ht : τ.1 a = 10) : AW d 86 82 [x0, x1, x2, x3, x4] (.int v :: .ref a :: st) σ ρ g τ Q = AW d 86 85 [x0, x1, x2, x3, x4] (st) (am_u σ a 7 v) ρ g τ Q := aw_pi m86 d86_82 rfl rfl (Or.inl rfl) rfl ht
theorem d86_85 : decode cX10_readLine 85 = .ok (.iload_n 1, 1) := by decide +kernel
theorem s86_85 {d : Nat} {st : List Value} {σ : am_I} {ρ : am_R} {g : am_J} {τ : am_T} {Q : am_Q} {x0 x2 x3 x4 : Value} {v : Int32} : AW d 86 85 [x0, .int v, x2, x3, x4] (st) σ ρ g τ Q = AW d 86 86 [x0, .int v, x2, x3, x4] (.int v :: st) σ ρ g τ Q := aw_lc m86 d86_85 rfl rfl rfl
theorem d86_86 : decode cX10_readLine 86 = .ok (.invokestatic 88, 3) := by decide +kernel
theorem s86_86 {d : Nat} {st : List Value} {σ : am_I} {ρ : am_R} {g : am_J} {τ : am_T} {Q : am_Q} {x0 x1 x2 x3 x4 : Value} {p0 : Int32} (hs : st.length ≤ 4) : AW (d + 1) 86 86 [x0, x1, x2, x3, x4] (.int p0 :: st) σ ρ g τ Q = AW d 87 0 [.int p0] [] σ ρ g τ (fun r9 σ ρ g τ => AW (d + 1) 86 89 [x0, x1, x2, x3, x4] (r9.toList ++ st) σ ρ g τ Q) := aw_cs m86 d86_86 rfl (by simp only [List.length_cons]; omega) rfl rfl en87 ok87 rfl hs
theorem d86_89 : decode cX10_readLine 89 = .ok (.ifCond .eq 26, 3) := by decide +kernel
theorem s86_89 {d : Nat} {st : List Value} {σ : am_I} {ρ : am_R} {g : am_J} {τ : am_T} {Q : am_Q} {x0 x1 x2 x3 x4 : Value} {v : Int32} : AW d 86 89 [x0, x1, x2, x3, x4] (.int v :: st) σ ρ g τ Q = if v = 0 then AW d 86 115 [x0, x1, x2, x3, x4] (st) σ ρ g τ Q else AW d 86 92 [x0, x1, x2, x3, x4] (st) σ ρ g τ Q := aw_br m86 d86_89 rfl rfl rfl
theorem d86_92 : decode cX10_readLine 92 = .ok (.aload_n 0, 1) := by decide +kernel
theorem s86_92 {d : Nat} {st : List Value} {σ : am_I} {ρ : am_R} {g : am_J} {τ : am_T} {Q : am_Q} {x1 x2 x3 x4 : Value} {v : Nat} : AW d 86 92 [.ref v, x1, x2, x3, x4] (st) σ ρ g τ Q = AW d 86 93 [.ref v, x1, x2, x3, x4] (.ref v :: st) σ ρ g τ Q := aw_lc m86 d86_92 rfl rfl rfl
theorem s86_92n {d : Nat} {st : List Value} {σ : am_I} {ρ : am_R} {g : am_J} {τ : am_T} {Q : am_Q} {x1 x2 x3 x4 : Value} : AW d 86 92 [.null, x1, x2, x3, x4] (st) σ ρ g τ Q = AW d 86 93 [.null, x1, x2, x3, x4] (.null :: st) σ ρ g τ Q := aw_lc m86 d86_92 rfl rfl rfl
theorem d86_93 : decode cX10_readLine 93 = .ok (.ldc 91, 2) := by decide +kernel
theorem s86_93 {d : Nat} {st : List Value} {σ : am_I} {ρ : am_R} {g : am_J} {τ : am_T} {Q : am_Q} {x0 x1 x2 x3 x4 : Value} : AW d 86 93 [x0, x1, x2, x3, x4] (st) σ ρ g τ Q = AW d 86 95 [x0, x1, x2, x3, x4] (.ref (am_BG + 12) :: st) σ ρ g τ Q := aw_lds m86 d86_93 rfl rfl
theorem d86_95 : decode cX10_readLine 95 = .ok (.invokevirtual 93, 3) := by decide +kernel
theorem s86_95 {d : Nat} {st : List Value} {σ : am_I} {ρ : am_R} {g : am_J} {τ : am_T} {Q : am_Q} {x0 x1 x2 x3 x4 : Value} {p0 : Nat} {p1 : Nat} (ht : τ.1 p0 = 10) (hs : st.length ≤ 4) : AW (d + 1) 86 95 [x0, x1, x2, x3, x4] (.ref p1 :: .ref p0 :: st) σ ρ g τ Q = AW d 83 0 [.ref p0, .ref p1, am_jk] [] σ ρ g τ (fun r9 σ ρ g τ => AW (d + 1) 86 98 [x0, x1, x2, x3, x4] (r9.toList ++ st) σ ρ g τ Q) := aw_cv m86 d86_95 rfl m83 rfl rfl (by decide) en83 ok83 rfl ht hs
theorem d86_98 : decode cX10_readLine 98 = .ok (.ifCond .eq 17, 3) := by decide +kernel
theorem s86_98 {d : Nat} {st : List Value} {σ : am_I} {ρ : am_R} {g : am_J} {τ : am_T} {Q : am_Q} {x0 x1 x2 x3 x4 : Value} {v : Int32} : AW d 86 98 [x0, x1, x2, x3, x4] (.int v :: st) σ ρ g τ Q = if v = 0 then AW d 86 115 [x0, x1, x2, x3, x4] (st) σ ρ g τ Q else AW d 86 101 [x0, x1, x2, x3, x4] (st) σ ρ g τ Q := aw_br m86 d86_98 rfl rfl rfl
theorem d86_101 : decode cX10_readLine 101 = .ok (.aload_n 0, 1) := by decide +kernel
theorem s86_101 {d : Nat} {st : List Value} {σ : am_I} {ρ : am_R} {g : am_J} {τ : am_T} {Q : am_Q} {x1 x2 x3 x4 : Value} {v : Nat} : AW d 86 101 [.ref v, x1, x2, x3, x4] (st) σ ρ g τ Q = AW d 86 102 [.ref v, x1, x2, x3, x4] (.ref v :: st) σ ρ g τ Q := aw_lc m86 d86_101 rfl rfl rfl
theorem s86_101n {d : Nat} {st : List Value} {σ : am_I} {ρ : am_R} {g : am_J} {τ : am_T} {Q : am_Q} {x1 x2 x3 x4 : Value} : AW d 86 101 [.null, x1, x2, x3, x4] (st) σ ρ g τ Q = AW d 86 102 [.null, x1, x2, x3, x4] (.null :: st) σ ρ g τ Q := aw_lc m86 d86_101 rfl rfl rfl
theorem d86_102 : decode cX10_readLine 102 = .ok (.invokevirtual 47, 3) := by decide +kernel
theorem s86_102 {d : Nat} {st : List Value} {σ : am_I} {ρ : am_R} {g : am_J} {τ : am_T} {Q : am_Q} {x0 x1 x2 x3 x4 : Value} {p0 : Nat} (ht : τ.1 p0 = 10) (hs : st.length ≤ 4) : AW (d + 1) 86 102 [x0, x1, x2, x3, x4] (.ref p0 :: st) σ ρ g τ Q = AW d 80 0 [.ref p0, am_jk] [] σ ρ g τ (fun r9 σ ρ g τ => AW (d + 1) 86 105 [x0, x1, x2, x3, x4] (r9.toList ++ st) σ ρ g τ Q) := aw_cv m86 d86_102 rfl m80 rfl rfl (by decide) en80 ok80 rfl ht hs
theorem d86_105 : decode cX10_readLine 105 = .ok (.aload_n 0, 1) := by decide +kernel
theorem s86_105 {d : Nat} {st : List Value} {σ : am_I} {ρ : am_R} {g : am_J} {τ : am_T} {Q : am_Q} {x1 x2 x3 x4 : Value} {v : Nat} : AW d 86 105 [.ref v, x1, x2, x3, x4] (st) σ ρ g τ Q = AW d 86 106 [.ref v, x1, x2, x3, x4] (.ref v :: st) σ ρ g τ Q := aw_lc m86 d86_105 rfl rfl rfl
theorem s86_105n {d : Nat} {st : List Value} {σ : am_I} {ρ : am_R} {g : am_J} {τ : am_T} {Q : am_Q} {x1 x2 x3 x4 : Value} : AW d 86 105 [.null, x1, x2, x3, x4] (st) σ ρ g τ Q = AW d 86 106 [.null, x1, x2, x3, x4] (.null :: st) σ ρ g τ Q := aw_lc m86 d86_105 rfl rfl rfl
theorem d86_106 : decode cX10_readLine 106 = .ok (.iconst 0, 1) := by decide +kernel
theorem s86_106 {d : Nat} {st : List Value} {σ : am_I} {ρ : am_R} {g : am_J} {τ : am_T} {Q : am_Q} {x0 x1 x2 x3 x4 : Value} : AW d 86 106 [x0, x1, x2, x3, x4] (st) σ ρ g τ Q = AW d 86 107 [x0, x1, x2, x3, x4] (.int 0 :: st) σ ρ g τ Q := aw_lc m86 d86_106 rfl rfl rfl
theorem d86_107 : decode cX10_readLine 107 = .ok (.invokevirtual 97, 3) := by decide +kernel
theorem s86_107 {d : Nat} {st : List Value} {σ : am_I} {ρ : am_R} {g : am_J} {τ : am_T} {Q : am_Q} {x0 x1 x2 x3 x4 : Value} {p0 : Nat} {p1 : Int32} (ht : τ.1 p0 = 10) (hs : st.length ≤ 4) : AW (d + 1) 86 107 [x0, x1, x2, x3, x4] (.int p1 :: .ref p0 :: st) σ ρ g τ Q = AW d 94 0 [.ref p0, .int p1, am_jk] [] σ ρ g τ (fun r9 σ ρ g τ => AW (d + 1) 86 110 [x0, x1, x2, x3, x4] (r9.toList ++ st) σ ρ g τ Q) := aw_cv m86 d86_107 rfl m94 rfl rfl (by decide) en94 ok94 rfl ht hs
theorem d86_110 : decode cX10_readLine 110 = .ok (.ifCond .ne 5, 3) := by decide +kernel
theorem s86_110 {d : Nat} {st : List Value} {σ : am_I} {ρ : am_R} {g : am_J} {τ : am_T} {Q : am_Q} {x0 x1 x2 x3 x4 : Value} {v : Int32} : AW d 86 110 [x0, x1, x2, x3, x4] (.int v :: st) σ ρ g τ Q = if ¬ v = 0 then AW d 86 115 [x0, x1, x2, x3, x4] (st) σ ρ g τ Q else AW d 86 113 [x0, x1, x2, x3, x4] (st) σ ρ g τ Q := aw_br m86 d86_110 rfl rfl rfl
theorem d86_113 : decode cX10_readLine 113 = .ok (.iconst 0, 1) := by decide +kernel
theorem s86_113 {d : Nat} {st : List Value} {σ : am_I} {ρ : am_R} {g : am_J} {τ : am_T} {Q : am_Q} {x0 x1 x2 x3 x4 : Value} : AW d 86 113 [x0, x1, x2, x3, x4] (st) σ ρ g τ Q = AW d 86 114 [x0, x1, x2, x3, x4] (.int 0 :: st) σ ρ g τ Q := aw_lc m86 d86_113 rfl rfl rfl
theorem d86_114 : decode cX10_readLine 114 = .ok (.ireturn, 1) := by decide +kernel
theorem s86_114 {d : Nat} {σ : am_I} {ρ : am_R} {g : am_J} {τ : am_T} {Q : am_Q} {x0 x1 x2 x3 x4 : Value} {v : Int32} (hv : am_b01 v = true) : AW d 86 114 [x0, x1, x2, x3, x4] ([.int v]) σ ρ g τ Q = Q (some (.int v)) σ ρ g τ := aw_rz m86 d86_114 rfl hv
theorem d86_115 : decode cX10_readLine 115 = .ok (.aload_n 0, 1) := by decide +kernel
theorem s86_115 {d : Nat} {st : List Value} {σ : am_I} {ρ : am_R} {g : am_J} {τ : am_T} {Q : am_Q} {x1 x2 x3 x4 : Value} {v : Nat} : AW d 86 115 [.ref v, x1, x2, x3, x4] (st) σ ρ g τ Q = AW d 86 116 [.ref v, x1, x2, x3, x4] (.ref v :: st) σ ρ g τ Q := aw_lc m86 d86_115 rfl rfl rfl
theorem s86_115n {d : Nat} {st : List Value} {σ : am_I} {ρ : am_R} {g : am_J} {τ : am_T} {Q : am_Q} {x1 x2 x3 x4 : Value} : AW d 86 115 [.null, x1, x2, x3, x4] (st) σ ρ g τ Q = AW d 86 116 [.null, x1, x2, x3, x4] (.null :: st) σ ρ g τ Q := aw_lc m86 d86_115 rfl rfl rfl
theorem d86_116 : decode cX10_readLine 116 = .ok (.bipush 59, 2) := by decide +kernel
theorem s86_116 {d : Nat} {st : List Value} {σ : am_I} {ρ : am_R} {g : am_J} {τ : am_T} {Q : am_Q} {x0 x1 x2 x3 x4 : Value} : AW d 86 116 [x0, x1, x2, x3, x4] (st) σ ρ g τ Q = AW d 86 118 [x0, x1, x2, x3, x4] (.int 59 :: st) σ ρ g τ Q := aw_lc m86 d86_116 rfl rfl rfl
theorem d86_118 : decode cX10_readLine 118 = .ok (.invokevirtual 100, 3) := by decide +kernel
theorem s86_118 {d : Nat} {st : List Value} {σ : am_I} {ρ : am_R} {g : am_J} {τ : am_T} {Q : am_Q} {x0 x1 x2 x3 x4 : Value} {p0 : Nat} {p1 : Int32} (ht : τ.1 p0 = 10) (hs : st.length ≤ 4) : AW (d + 1) 86 118 [x0, x1, x2, x3, x4] (.int p1 :: .ref p0 :: st) σ ρ g τ Q = AW d 84 0 [.ref p0, .int p1] [] σ ρ g τ (fun r9 σ ρ g τ => AW (d + 1) 86 121 [x0, x1, x2, x3, x4] (r9.toList ++ st) σ ρ g τ Q) := aw_cv m86 d86_118 rfl m84 rfl rfl (by decide) en84 ok84 rfl ht hs
theorem d86_121 : decode cX10_readLine 121 = .ok (.ifCond .eq 15, 3) := by decide +kernel
theorem s86_121 {d : Nat} {st : List Value} {σ : am_I} {ρ : am_R} {g : am_J} {τ : am_T} {Q : am_Q} {x0 x1 x2 x3 x4 : Value} {v : Int32} : AW d 86 121 [x0, x1, x2, x3, x4] (.int v :: st) σ ρ g τ Q = if v = 0 then AW d 86 136 [x0, x1, x2, x3, x4] (st) σ ρ g τ Q else AW d 86 124 [x0, x1, x2, x3, x4] (st) σ ρ g τ Q := aw_br m86 d86_121 rfl rfl rfl
theorem d86_124 : decode cX10_readLine 124 = .ok (.iload_n 1, 1) := by decide +kernel
theorem s86_124 {d : Nat} {st : List Value} {σ : am_I} {ρ : am_R} {g : am_J} {τ : am_T} {Q : am_Q} {x0 x2 x3 x4 : Value} {v : Int32} : AW d 86 124 [x0, .int v, x2, x3, x4] (st) σ ρ g τ Q = AW d 86 125 [x0, .int v, x2, x3, x4] (.int v :: st) σ ρ g τ Q := aw_lc m86 d86_124 rfl rfl rfl
theorem d86_125 : decode cX10_readLine 125 = .ok (.iconst 2, 1) := by decide +kernel
theorem s86_125 {d : Nat} {st : List Value} {σ : am_I} {ρ : am_R} {g : am_J} {τ : am_T} {Q : am_Q} {x0 x1 x2 x3 x4 : Value} : AW d 86 125 [x0, x1, x2, x3, x4] (st) σ ρ g τ Q = AW d 86 126 [x0, x1, x2, x3, x4] (.int 2 :: st) σ ρ g τ Q := aw_lc m86 d86_125 rfl rfl rfl
theorem d86_126 : decode cX10_readLine 126 = .ok (.if_icmp .ne 12, 3) := by decide +kernel
theorem s86_126 {d : Nat} {st : List Value} {σ : am_I} {ρ : am_R} {g : am_J} {τ : am_T} {Q : am_Q} {x0 x1 x2 x3 x4 : Value} {v w : Int32} : AW d 86 126 [x0, x1, x2, x3, x4] (.int w :: .int v :: st) σ ρ g τ Q = if ¬ v = w then AW d 86 138 [x0, x1, x2, x3, x4] (st) σ ρ g τ Q else AW d 86 129 [x0, x1, x2, x3, x4] (st) σ ρ g τ Q := aw_br m86 d86_126 rfl rfl rfl
theorem d86_129 : decode cX10_readLine 129 = .ok (.aload_n 0, 1) := by decide +kernel
theorem s86_129 {d : Nat} {st : List Value} {σ : am_I} {ρ : am_R} {g : am_J} {τ : am_T} {Q : am_Q} {x1 x2 x3 x4 : Value} {v : Nat} : AW d 86 129 [.ref v, x1, x2, x3, x4] (st) σ ρ g τ Q = AW d 86 130 [.ref v, x1, x2, x3, x4] (.ref v :: st) σ ρ g τ Q := aw_lc m86 d86_129 rfl rfl rfl
theorem s86_129n {d : Nat} {st : List Value} {σ : am_I} {ρ : am_R} {g : am_J} {τ : am_T} {Q : am_Q} {x1 x2 x3 x4 : Value} : AW d 86 129 [.null, x1, x2, x3, x4] (st) σ ρ g τ Q = AW d 86 130 [.null, x1, x2, x3, x4] (.null :: st) σ ρ g τ Q := aw_lc m86 d86_129 rfl rfl rfl
theorem d86_130 : decode cX10_readLine 130 = .ok (.getfield 35, 3) := by decide +kernel
theorem s86_130 {d : Nat} {st : List Value} {σ : am_I} {ρ : am_R} {g : am_J} {τ : am_T} {Q : am_Q} {x0 x1 x2 x3 x4 : Value} {a : Nat} (ht : τ.1 a = 10) : AW d 86 130 [x0, x1, x2, x3, x4] (.ref a :: st) σ ρ g τ Q = AW d 86 133 [x0, x1, x2, x3, x4] (.int (σ a 7) :: st) σ ρ g τ Q := aw_gi m86 d86_130 rfl rfl rfl ht
theorem d86_133 : decode cX10_readLine 133 = .ok (.ifCond .ne 5, 3) := by decide +kernel
theorem s86_133 {d : Nat} {st : List Value} {σ : am_I} {ρ : am_R} {g : am_J} {τ : am_T} {Q : am_Q} {x0 x1 x2 x3 x4 : Value} {v : Int32} : AW d 86 133 [x0, x1, x2, x3, x4] (.int v :: st) σ ρ g τ Q = if ¬ v = 0 then AW d 86 138 [x0, x1, x2, x3, x4] (st) σ ρ g τ Q else AW d 86 136 [x0, x1, x2, x3, x4] (st) σ ρ g τ Q := aw_br m86 d86_133 rfl rfl rfl
theorem d86_136 : decode cX10_readLine 136 = .ok (.iconst 0, 1) := by decide +kernel
theorem s86_136 {d : Nat} {st : List Value} {σ : am_I} {ρ : am_R} {g : am_J} {τ : am_T} {Q : am_Q} {x0 x1 x2 x3 x4 : Value} : AW d 86 136 [x0, x1, x2, x3, x4] (st) σ ρ g τ Q = AW d 86 137 [x0, x1, x2, x3, x4] (.int 0 :: st) σ ρ g τ Q := aw_lc m86 d86_136 rfl rfl rfl
theorem d86_137 : decode cX10_readLine 137 = .ok (.ireturn, 1) := by decide +kernel
theorem s86_137 {d : Nat} {σ : am_I} {ρ : am_R} {g : am_J} {τ : am_T} {Q : am_Q} {x0 x1 x2 x3 x4 : Value} {v : Int32} (hv : am_b01 v = true) : AW d 86 137 [x0, x1, x2, x3, x4] ([.int v]) σ ρ g τ Q = Q (some (.int v)) σ ρ g τ := aw_rz m86 d86_137 rfl hv
theorem d86_138 : decode cX10_readLine 138 = .ok (.aload_n 0, 1) := by decide +kernel
theorem s86_138 {d : Nat} {st : List Value} {σ : am_I} {ρ : am_R} {g : am_J} {τ : am_T} {Q : am_Q} {x1 x2 x3 x4 : Value} {v : Nat} : AW d 86 138 [.ref v, x1, x2, x3, x4] (st) σ ρ g τ Q = AW d 86 139 [.ref v, x1, x2, x3, x4] (.ref v :: st) σ ρ g τ Q := aw_lc m86 d86_138 rfl rfl rfl
theorem s86_138n {d : Nat} {st : List Value} {σ : am_I} {ρ : am_R} {g : am_J} {τ : am_T} {Q : am_Q} {x1 x2 x3 x4 : Value} : AW d 86 138 [.null, x1, x2, x3, x4] (st) σ ρ g τ Q = AW d 86 139 [.null, x1, x2, x3, x4] (.null :: st) σ ρ g τ Q := aw_lc m86 d86_138 rfl rfl rfl
theorem d86_139 : decode cX10_readLine 139 = .ok (.invokevirtual 47, 3) := by decide +kernel
theorem s86_139 {d : Nat} {st : List Value} {σ : am_I} {ρ : am_R} {g : am_J} {τ : am_T} {Q : am_Q} {x0 x1 x2 x3 x4 : Value} {p0 : Nat} (ht : τ.1 p0 = 10) (hs : st.length ≤ 4) : AW (d + 1) 86 139 [x0, x1, x2, x3, x4] (.ref p0 :: st) σ ρ g τ Q = AW d 80 0 [.ref p0, am_jk] [] σ ρ g τ (fun r9 σ ρ g τ => AW (d + 1) 86 142 [x0, x1, x2, x3, x4] (r9.toList ++ st) σ ρ g τ Q) := aw_cv m86 d86_139 rfl m80 rfl rfl (by decide) en80 ok80 rfl ht hs
theorem d86_142 : decode cX10_readLine 142 = .ok (.aload_n 0, 1) := by decide +kernel
theorem s86_142 {d : Nat} {st : List Value} {σ : am_I} {ρ : am_R} {g : am_J} {τ : am_T} {Q : am_Q} {x1 x2 x3 x4 : Value} {v : Nat} : AW d 86 142 [.ref v, x1, x2, x3, x4] (st) σ ρ g τ Q = AW d 86 143 [.ref v, x1, x2, x3, x4] (.ref v :: st) σ ρ g τ Q := aw_lc m86 d86_142 rfl rfl rfl
theorem s86_142n {d : Nat} {st : List Value} {σ : am_I} {ρ : am_R} {g : am_J} {τ : am_T} {Q : am_Q} {x1 x2 x3 x4 : Value} : AW d 86 142 [.null, x1, x2, x3, x4] (st) σ ρ g τ Q = AW d 86 143 [.null, x1, x2, x3, x4] (.null :: st) σ ρ g τ Q := aw_lc m86 d86_142 rfl rfl rfl
theorem d86_143 : decode cX10_readLine 143 = .ok (.getfield 35, 3) := by decide +kernel
theorem s86_143 {d : Nat} {st : List Value} {σ : am_I} {ρ : am_R} {g : am_J} {τ : am_T} {Q : am_Q} {x0 x1 x2 x3 x4 : Value} {a : Nat} (ht : τ.1 a = 10) : AW d 86 143 [x0, x1, x2, x3, x4] (.ref a :: st) σ ρ g τ Q = AW d 86 146 [x0, x1, x2, x3, x4] (.int (σ a 7) :: st) σ ρ g τ Q := aw_gi m86 d86_143 rfl rfl rfl ht
theorem d86_146 : decode cX10_readLine 146 = .ok (.ifCond .le 17, 3) := by decide +kernel
theorem s86_146 {d : Nat} {st : List Value} {σ : am_I} {ρ : am_R} {g : am_J} {τ : am_T} {Q : am_Q} {x0 x1 x2 x3 x4 : Value} {v : Int32} : AW d 86 146 [x0, x1, x2, x3, x4] (.int v :: st) σ ρ g τ Q = if v ≤ 0 then AW d 86 163 [x0, x1, x2, x3, x4] (st) σ ρ g τ Q else AW d 86 149 [x0, x1, x2, x3, x4] (st) σ ρ g τ Q := aw_br m86 d86_146 rfl rfl rfl
theorem d86_149 : decode cX10_readLine 149 = .ok (.aload_n 0, 1) := by decide +kernel
theorem s86_149 {d : Nat} {st : List Value} {σ : am_I} {ρ : am_R} {g : am_J} {τ : am_T} {Q : am_Q} {x1 x2 x3 x4 : Value} {v : Nat} : AW d 86 149 [.ref v, x1, x2, x3, x4] (st) σ ρ g τ Q = AW d 86 150 [.ref v, x1, x2, x3, x4] (.ref v :: st) σ ρ g τ Q := aw_lc m86 d86_149 rfl rfl rfl
theorem s86_149n {d : Nat} {st : List Value} {σ : am_I} {ρ : am_R} {g : am_J} {τ : am_T} {Q : am_Q} {x1 x2 x3 x4 : Value} : AW d 86 149 [.null, x1, x2, x3, x4] (st) σ ρ g τ Q = AW d 86 150 [.null, x1, x2, x3, x4] (.null :: st) σ ρ g τ Q := aw_lc m86 d86_149 rfl rfl rfl
theorem d86_150 : decode cX10_readLine 150 = .ok (.getfield 31, 3) := by decide +kernel
theorem s86_150 {d : Nat} {st : List Value} {σ : am_I} {ρ : am_R} {g : am_J} {τ : am_T} {Q : am_Q} {x0 x1 x2 x3 x4 : Value} {a : Nat} (ht : τ.1 a = 10) : AW d 86 150 [x0, x1, x2, x3, x4] (.ref a :: st) σ ρ g τ Q = AW d 86 153 [x0, x1, x2, x3, x4] (va_rf (ρ a 6) :: st) σ ρ g τ Q := aw_gr m86 d86_150 rfl rfl rfl ht
theorem d86_153 : decode cX10_readLine 153 = .ok (.aload_n 0, 1) := by decide +kernel
theorem s86_153 {d : Nat} {st : List Value} {σ : am_I} {ρ : am_R} {g : am_J} {τ : am_T} {Q : am_Q} {x1 x2 x3 x4 : Value} {v : Nat} : AW d 86 153 [.ref v, x1, x2, x3, x4] (st) σ ρ g τ Q = AW d 86 154 [.ref v, x1, x2, x3, x4] (.ref v :: st) σ ρ g τ Q := aw_lc m86 d86_153 rfl rfl rfl
theorem s86_153n {d : Nat} {st : List Value} {σ : am_I} {ρ : am_R} {g : am_J} {τ : am_T} {Q : am_Q} {x1 x2 x3 x4 : Value} : AW d 86 153 [.null, x1, x2, x3, x4] (st) σ ρ g τ Q = AW d 86 154 [.null, x1, x2, x3, x4] (.null :: st) σ ρ g τ Q := aw_lc m86 d86_153 rfl rfl rfl
theorem d86_154 : decode cX10_readLine 154 = .ok (.getfield 35, 3) := by decide +kernel
theorem s86_154 {d : Nat} {st : List Value} {σ : am_I} {ρ : am_R} {g : am_J} {τ : am_T} {Q : am_Q} {x0 x1 x2 x3 x4 : Value} {a : Nat} (ht : τ.1 a = 10) : AW d 86 154 [x0, x1, x2, x3, x4] (.ref a :: st) σ ρ g τ Q = AW d 86 157 [x0, x1, x2, x3, x4] (.int (σ a 7) :: st) σ ρ g τ Q := aw_gi m86 d86_154 rfl rfl rfl ht
theorem d86_157 : decode cX10_readLine 157 = .ok (.invokestatic 104, 3) := by decide +kernel
theorem s86_157 {d : Nat} {st : List Value} {σ : am_I} {ρ : am_R} {g : am_J} {τ : am_T} {Q : am_Q} {x0 x1 x2 x3 x4 : Value} {p0 : Nat} {p1 : Int32} (hs : st.length ≤ 4) : AW (d + 1) 86 157 [x0, x1, x2, x3, x4] (.int p1 :: .ref p0 :: st) σ ρ g τ Q = AW d 277 0 [.ref p0, .int p1, am_jk] [] σ ρ g τ (fun r9 σ ρ g τ => AW (d + 1) 86 160 [x0, x1, x2, x3, x4] (r9.toList ++ st) σ ρ g τ Q) := aw_cs m86 d86_157 rfl (by simp only [List.length_cons]; omega) rfl rfl en277 ok277 rfl hs
theorem d86_160 : decode cX10_readLine 160 = .ok (.goto 4, 3) := by decide +kernel
theorem s86_160 {d : Nat} {st : List Value} {σ : am_I} {ρ : am_R} {g : am_J} {τ : am_T} {Q : am_Q} {x0 x1 x2 x3 x4 : Value} : AW d 86 160 [x0, x1, x2, x3, x4] (st) σ ρ g τ Q = AW d 86 164 [x0, x1, x2, x3, x4] (st) σ ρ g τ Q := aw_lc m86 d86_160 rfl rfl rfl
theorem d86_163 : decode cX10_readLine 163 = .ok (.aconst_null, 1) := by decide +kernel
theorem s86_163 {d : Nat} {st : List Value} {σ : am_I} {ρ : am_R} {g : am_J} {τ : am_T} {Q : am_Q} {x0 x1 x2 x3 x4 : Value} : AW d 86 163 [x0, x1, x2, x3, x4] (st) σ ρ g τ Q = AW d 86 164 [x0, x1, x2, x3, x4] (.null :: st) σ ρ g τ Q := aw_lc m86 d86_163 rfl rfl rfl
theorem d86_164 : decode cX10_readLine 164 = .ok (.astore 4, 2) := by decide +kernel
theorem s86_164 {d : Nat} {st : List Value} {σ : am_I} {ρ : am_R} {g : am_J} {τ : am_T} {Q : am_Q} {x0 x1 x2 x4 : Value} {v : Nat} {u : Int32} : AW d 86 164 [x0, x1, x2, .int u, x4] (.ref v :: st) σ ρ g τ Q = AW d 86 166 [x0, x1, x2, .int u, .ref v] (st) σ ρ g τ Q := aw_lc m86 d86_164 rfl rfl rfl
theorem s86_164n {d : Nat} {st : List Value} {σ : am_I} {ρ : am_R} {g : am_J} {τ : am_T} {Q : am_Q} {x0 x1 x2 x4 : Value} {u : Int32} : AW d 86 164 [x0, x1, x2, .int u, x4] (.null :: st) σ ρ g τ Q = AW d 86 166 [x0, x1, x2, .int u, .null] (st) σ ρ g τ Q := aw_lc m86 d86_164 rfl rfl rfl
theorem d86_166 : decode cX10_readLine 166 = .ok (.aload_n 0, 1) := by decide +kernel
theorem s86_166 {d : Nat} {st : List Value} {σ : am_I} {ρ : am_R} {g : am_J} {τ : am_T} {Q : am_Q} {x1 x2 x3 x4 : Value} {v : Nat} : AW d 86 166 [.ref v, x1, x2, x3, x4] (st) σ ρ g τ Q = AW d 86 167 [.ref v, x1, x2, x3, x4] (.ref v :: st) σ ρ g τ Q := aw_lc m86 d86_166 rfl rfl rfl
theorem s86_166n {d : Nat} {st : List Value} {σ : am_I} {ρ : am_R} {g : am_J} {τ : am_T} {Q : am_Q} {x1 x2 x3 x4 : Value} : AW d 86 166 [.null, x1, x2, x3, x4] (st) σ ρ g τ Q = AW d 86 167 [.null, x1, x2, x3, x4] (.null :: st) σ ρ g τ Q := aw_lc m86 d86_166 rfl rfl rfl
theorem d86_167 : decode cX10_readLine 167 = .ok (.getfield 40, 3) := by decide +kernel
theorem s86_167 {d : Nat} {st : List Value} {σ : am_I} {ρ : am_R} {g : am_J} {τ : am_T} {Q : am_Q} {x0 x1 x2 x3 x4 : Value} {a : Nat} (ht : τ.1 a = 10) : AW d 86 167 [x0, x1, x2, x3, x4] (.ref a :: st) σ ρ g τ Q = AW d 86 170 [x0, x1, x2, x3, x4] (va_rf (ρ a 8) :: st) σ ρ g τ Q := aw_gr m86 d86_167 rfl rfl rfl ht
theorem d86_170 : decode cX10_readLine 170 = .ok (.aload_n 0, 1) := by decide +kernel
theorem s86_170 {d : Nat} {st : List Value} {σ : am_I} {ρ : am_R} {g : am_J} {τ : am_T} {Q : am_Q} {x1 x2 x3 x4 : Value} {v : Nat} : AW d 86 170 [.ref v, x1, x2, x3, x4] (st) σ ρ g τ Q = AW d 86 171 [.ref v, x1, x2, x3, x4] (.ref v :: st) σ ρ g τ Q := aw_lc m86 d86_170 rfl rfl rfl
theorem s86_170n {d : Nat} {st : List Value} {σ : am_I} {ρ : am_R} {g : am_J} {τ : am_T} {Q : am_Q} {x1 x2 x3 x4 : Value} : AW d 86 170 [.null, x1, x2, x3, x4] (st) σ ρ g τ Q = AW d 86 171 [.null, x1, x2, x3, x4] (.null :: st) σ ρ g τ Q := aw_lc m86 d86_170 rfl rfl rfl
theorem d86_171 : decode cX10_readLine 171 = .ok (.getfield 44, 3) := by decide +kernel
theorem s86_171 {d : Nat} {st : List Value} {σ : am_I} {ρ : am_R} {g : am_J} {τ : am_T} {Q : am_Q} {x0 x1 x2 x3 x4 : Value} {a : Nat} (ht : τ.1 a = 10) : AW d 86 171 [x0, x1, x2, x3, x4] (.ref a :: st) σ ρ g τ Q = AW d 86 174 [x0, x1, x2, x3, x4] (.int (σ a 9) :: st) σ ρ g τ Q := aw_gi m86 d86_171 rfl rfl rfl ht
theorem d86_174 : decode cX10_readLine 174 = .ok (.new 38, 3) := by decide +kernel
theorem s86_174 {d : Nat} {st : List Value} {σ : am_I} {ρ : am_R} {g : am_J} {τ : am_T} {Q : am_Q} {x0 x1 x2 x3 x4 : Value} : AW d 86 174 [x0, x1, x2, x3, x4] (st) σ ρ g τ Q = AW d 86 177 [x0, x1, x2, x3, x4] (.ref τ.2.2.1 :: st) (am_new 5 4 σ ρ g τ).1 (am_new 5 4 σ ρ g τ).2.1 (am_new 5 4 σ ρ g τ).2.2.1 (am_new 5 4 σ ρ g τ).2.2.2 Q := aw_new m86 d86_174 rfl rfl (by decide)
theorem d86_177 : decode cX10_readLine 177 = .ok (.dup, 1) := by decide +kernel
theorem s86_177 {d : Nat} {st : List Value} {σ : am_I} {ρ : am_R} {g : am_J} {τ : am_T} {Q : am_Q} {x0 x1 x2 x3 x4 : Value} {v : Int32} : AW d 86 177 [x0, x1, x2, x3, x4] (.int v :: st) σ ρ g τ Q = AW d 86 178 [x0, x1, x2, x3, x4] (.int v :: .int v :: st) σ ρ g τ Q := aw_lc m86 d86_177 rfl rfl rfl
theorem s86_177r {d : Nat} {st : List Value} {σ : am_I} {ρ : am_R} {g : am_J} {τ : am_T} {Q : am_Q} {x0 x1 x2 x3 x4 : Value} {v : Nat} : AW d 86 177 [x0, x1, x2, x3, x4] (.ref v :: st) σ ρ g τ Q = AW d 86 178 [x0, x1, x2, x3, x4] (.ref v :: .ref v :: st) σ ρ g τ Q := aw_lc m86 d86_177 rfl rfl rfl
theorem d86_178 : decode cX10_readLine 178 = .ok (.iload_n 1, 1) := by decide +kernel
theorem s86_178 {d : Nat} {st : List Value} {σ : am_I} {ρ : am_R} {g : am_J} {τ : am_T} {Q : am_Q} {x0 x2 x3 x4 : Value} {v : Int32} : AW d 86 178 [x0, .int v, x2, x3, x4] (st) σ ρ g τ Q = AW d 86 179 [x0, .int v, x2, x3, x4] (.int v :: st) σ ρ g τ Q := aw_lc m86 d86_178 rfl rfl rfl
theorem d86_179 : decode cX10_readLine 179 = .ok (.iload_n 2, 1) := by decide +kernel
theorem s86_179 {d : Nat} {st : List Value} {σ : am_I} {ρ : am_R} {g : am_J} {τ : am_T} {Q : am_Q} {x0 x1 x3 x4 : Value} {v : Int32} : AW d 86 179 [x0, x1, .int v, x3, x4] (st) σ ρ g τ Q = AW d 86 180 [x0, x1, .int v, x3, x4] (.int v :: st) σ ρ g τ Q := aw_lc m86 d86_179 rfl rfl rfl
theorem d86_180 : decode cX10_readLine 180 = .ok (.iload_n 3, 1) := by decide +kernel
theorem s86_180 {d : Nat} {st : List Value} {σ : am_I} {ρ : am_R} {g : am_J} {τ : am_T} {Q : am_Q} {x0 x1 x2 x4 : Value} {v : Int32} : AW d 86 180 [x0, x1, x2, .int v, x4] (st) σ ρ g τ Q = AW d 86 181 [x0, x1, x2, .int v, x4] (.int v :: st) σ ρ g τ Q := aw_lc m86 d86_180 rfl rfl rfl
theorem d86_181 : decode cX10_readLine 181 = .ok (.aload 4, 2) := by decide +kernel
theorem s86_181 {d : Nat} {st : List Value} {σ : am_I} {ρ : am_R} {g : am_J} {τ : am_T} {Q : am_Q} {x0 x1 x2 x3 : Value} {v : Nat} : AW d 86 181 [x0, x1, x2, x3, .ref v] (st) σ ρ g τ Q = AW d 86 183 [x0, x1, x2, x3, .ref v] (.ref v :: st) σ ρ g τ Q := aw_lc m86 d86_181 rfl rfl rfl
theorem s86_181n {d : Nat} {st : List Value} {σ : am_I} {ρ : am_R} {g : am_J} {τ : am_T} {Q : am_Q} {x0 x1 x2 x3 : Value} : AW d 86 181 [x0, x1, x2, x3, .null] (st) σ ρ g τ Q = AW d 86 183 [x0, x1, x2, x3, .null] (.null :: st) σ ρ g τ Q := aw_lc m86 d86_181 rfl rfl rfl
theorem d86_183 : decode cX10_readLine 183 = .ok (.invokespecial 110, 3) := by decide +kernel
theorem s86_183 {d : Nat} {st : List Value} {σ : am_I} {ρ : am_R} {g : am_J} {τ : am_T} {Q : am_Q} {x0 x1 x2 x3 x4 : Value} {p0 : Nat} {p1 : Int32} {p2 : Int32} {p3 : Int32} {p4 : Nat} (hs : st.length ≤ 4) : AW (d + 1) 86 183 [x0, x1, x2, x3, x4] (.ref p4 :: .int p3 :: .int p2 :: .int p1 :: .ref p0 :: st) σ ρ g τ Q = AW d 50 0 [.ref p0, .int p1, .int p2, .int p3, .ref p4] [] σ ρ g τ (fun r9 σ ρ g τ => AW (d + 1) 86 186 [x0, x1, x2, x3, x4] (r9.toList ++ st) σ ρ g τ Q) := aw_ci m86 d86_183 rfl rfl en50 ok50 rfl hs
theorem d86_186 : decode cX10_readLine 186 = .ok (.aastore, 1) := by decide +kernel
theorem s86_186 {d : Nat} {st : List Value} {σ : am_I} {ρ : am_R} {g : am_J} {τ : am_T} {Q : am_Q} {x0 x1 x2 x3 x4 : Value} {a b : Nat} {j : Int32} (ht : 18 ≤ τ.1 a ∧ τ.1 a ≤ 22) (hj : am_inb j (τ.2.1 a) = true) (hb : τ.1 b = am_elK (τ.1 a)) (hb2 : b < am_BG) : AW d 86 186 [x0, x1, x2, x3, x4] (.ref b :: .int j :: .ref a :: st) σ ρ g τ Q = AW d 86 187 [x0, x1, x2, x3, x4] (st) σ (am_u ρ a j.toNatClampNeg (some b)) g τ Q := aw_aas m86 d86_186 rfl ht hj hb hb2
theorem d86_187 : decode cX10_readLine 187 = .ok (.aload_n 0, 1) := by decide +kernel
theorem s86_187 {d : Nat} {st : List Value} {σ : am_I} {ρ : am_R} {g : am_J} {τ : am_T} {Q : am_Q} {x1 x2 x3 x4 : Value} {v : Nat} : AW d 86 187 [.ref v, x1, x2, x3, x4] (st) σ ρ g τ Q = AW d 86 188 [.ref v, x1, x2, x3, x4] (.ref v :: st) σ ρ g τ Q := aw_lc m86 d86_187 rfl rfl rfl
theorem s86_187n {d : Nat} {st : List Value} {σ : am_I} {ρ : am_R} {g : am_J} {τ : am_T} {Q : am_Q} {x1 x2 x3 x4 : Value} : AW d 86 187 [.null, x1, x2, x3, x4] (st) σ ρ g τ Q = AW d 86 188 [.null, x1, x2, x3, x4] (.null :: st) σ ρ g τ Q := aw_lc m86 d86_187 rfl rfl rfl
theorem d86_188 : decode cX10_readLine 188 = .ok (.dup, 1) := by decide +kernel
theorem s86_188 {d : Nat} {st : List Value} {σ : am_I} {ρ : am_R} {g : am_J} {τ : am_T} {Q : am_Q} {x0 x1 x2 x3 x4 : Value} {v : Int32} : AW d 86 188 [x0, x1, x2, x3, x4] (.int v :: st) σ ρ g τ Q = AW d 86 189 [x0, x1, x2, x3, x4] (.int v :: .int v :: st) σ ρ g τ Q := aw_lc m86 d86_188 rfl rfl rfl
theorem s86_188r {d : Nat} {st : List Value} {σ : am_I} {ρ : am_R} {g : am_J} {τ : am_T} {Q : am_Q} {x0 x1 x2 x3 x4 : Value} {v : Nat} : AW d 86 188 [x0, x1, x2, x3, x4] (.ref v :: st) σ ρ g τ Q = AW d 86 189 [x0, x1, x2, x3, x4] (.ref v :: .ref v :: st) σ ρ g τ Q := aw_lc m86 d86_188 rfl rfl rfl
theorem d86_189 : decode cX10_readLine 189 = .ok (.getfield 44, 3) := by decide +kernel
theorem s86_189 {d : Nat} {st : List Value} {σ : am_I} {ρ : am_R} {g : am_J} {τ : am_T} {Q : am_Q} {x0 x1 x2 x3 x4 : Value} {a : Nat} (ht : τ.1 a = 10) : AW d 86 189 [x0, x1, x2, x3, x4] (.ref a :: st) σ ρ g τ Q = AW d 86 192 [x0, x1, x2, x3, x4] (.int (σ a 9) :: st) σ ρ g τ Q := aw_gi m86 d86_189 rfl rfl rfl ht
theorem d86_192 : decode cX10_readLine 192 = .ok (.iconst 1, 1) := by decide +kernel
theorem s86_192 {d : Nat} {st : List Value} {σ : am_I} {ρ : am_R} {g : am_J} {τ : am_T} {Q : am_Q} {x0 x1 x2 x3 x4 : Value} : AW d 86 192 [x0, x1, x2, x3, x4] (st) σ ρ g τ Q = AW d 86 193 [x0, x1, x2, x3, x4] (.int 1 :: st) σ ρ g τ Q := aw_lc m86 d86_192 rfl rfl rfl
theorem d86_193 : decode cX10_readLine 193 = .ok (.iadd, 1) := by decide +kernel
theorem s86_193 {d : Nat} {st : List Value} {σ : am_I} {ρ : am_R} {g : am_J} {τ : am_T} {Q : am_Q} {x0 x1 x2 x3 x4 : Value} {v w : Int32} : AW d 86 193 [x0, x1, x2, x3, x4] (.int w :: .int v :: st) σ ρ g τ Q = AW d 86 194 [x0, x1, x2, x3, x4] (.int (v + w) :: st) σ ρ g τ Q := aw_lc m86 d86_193 rfl rfl rfl
theorem d86_194 : decode cX10_readLine 194 = .ok (.putfield 44, 3) := by decide +kernel
theorem s86_194 {d : Nat} {st : List Value} {σ : am_I} {ρ : am_R} {g : am_J} {τ : am_T} {Q : am_Q} {x0 x1 x2 x3 x4 : Value} {a : Nat} {v : Int32} (ht : τ.1 a = 10) : AW d 86 194 [x0, x1, x2, x3, x4] (.int v :: .ref a :: st) σ ρ g τ Q = AW d 86 197 [x0, x1, x2, x3, x4] (st) (am_u σ a 9 v) ρ g τ Q := aw_pi m86 d86_194 rfl rfl (Or.inl rfl) rfl ht
theorem d86_197 : decode cX10_readLine 197 = .ok (.iconst 1, 1) := by decide +kernel
theorem s86_197 {d : Nat} {st : List Value} {σ : am_I} {ρ : am_R} {g : am_J} {τ : am_T} {Q : am_Q} {x0 x1 x2 x3 x4 : Value} : AW d 86 197 [x0, x1, x2, x3, x4] (st) σ ρ g τ Q = AW d 86 198 [x0, x1, x2, x3, x4] (.int 1 :: st) σ ρ g τ Q := aw_lc m86 d86_197 rfl rfl rfl
theorem d86_198 : decode cX10_readLine 198 = .ok (.ireturn, 1) := by decide +kernel
theorem s86_198 {d : Nat} {σ : am_I} {ρ : am_R} {g : am_J} {τ : am_T} {Q : am_Q} {x0 x1 x2 x3 x4 : Value} {v : Int32} (hv : am_b01 v = true) : AW d 86 198 [x0, x1, x2, x3, x4] ([.int v]) σ ρ g τ Q = Q (some (.int v)) σ ρ g τ := aw_rz m86 d86_198 rfl hv
theorem d87_0 : decode cX10_mayHaveCond 0 = .ok (.iload_n 0, 1) := by decide +kernel
theorem s87_0 {d : Nat} {st : List Value} {σ : am_I} {ρ : am_R} {g : am_J} {τ : am_T} {Q : am_Q} {v : Int32} : AW d 87 0 [.int v] (st) σ ρ g τ Q = AW d 87 1 [.int v] (.int v :: st) σ ρ g τ Q := aw_lc m87 d87_0 rfl rfl rfl
theorem d87_1 : decode cX10_mayHaveCond 1 = .ok (.iconst 3, 1) := by decide +kernel
theorem s87_1 {d : Nat} {st : List Value} {σ : am_I} {ρ : am_R} {g : am_J} {τ : am_T} {Q : am_Q} {x0 : Value} : AW d 87 1 [x0] (st) σ ρ g τ Q = AW d 87 2 [x0] (.int 3 :: st) σ ρ g τ Q := aw_lc m87 d87_1 rfl rfl rfl
theorem d87_2 : decode cX10_mayHaveCond 2 = .ok (.if_icmp .eq 12, 3) := by decide +kernel
theorem s87_2 {d : Nat} {st : List Value} {σ : am_I} {ρ : am_R} {g : am_J} {τ : am_T} {Q : am_Q} {x0 : Value} {v w : Int32} : AW d 87 2 [x0] (.int w :: .int v :: st) σ ρ g τ Q = if v = w then AW d 87 14 [x0] (st) σ ρ g τ Q else AW d 87 5 [x0] (st) σ ρ g τ Q := aw_br m87 d87_2 rfl rfl rfl
theorem d87_5 : decode cX10_mayHaveCond 5 = .ok (.iload_n 0, 1) := by decide +kernel
theorem s87_5 {d : Nat} {st : List Value} {σ : am_I} {ρ : am_R} {g : am_J} {τ : am_T} {Q : am_Q} {v : Int32} : AW d 87 5 [.int v] (st) σ ρ g τ Q = AW d 87 6 [.int v] (.int v :: st) σ ρ g τ Q := aw_lc m87 d87_5 rfl rfl rfl
theorem d87_6 : decode cX10_mayHaveCond 6 = .ok (.iconst 4, 1) := by decide +kernel
theorem s87_6 {d : Nat} {st : List Value} {σ : am_I} {ρ : am_R} {g : am_J} {τ : am_T} {Q : am_Q} {x0 : Value} : AW d 87 6 [x0] (st) σ ρ g τ Q = AW d 87 7 [x0] (.int 4 :: st) σ ρ g τ Q := aw_lc m87 d87_6 rfl rfl rfl
theorem d87_7 : decode cX10_mayHaveCond 7 = .ok (.if_icmp .eq 7, 3) := by decide +kernel
theorem s87_7 {d : Nat} {st : List Value} {σ : am_I} {ρ : am_R} {g : am_J} {τ : am_T} {Q : am_Q} {x0 : Value} {v w : Int32} : AW d 87 7 [x0] (.int w :: .int v :: st) σ ρ g τ Q = if v = w then AW d 87 14 [x0] (st) σ ρ g τ Q else AW d 87 10 [x0] (st) σ ρ g τ Q := aw_br m87 d87_7 rfl rfl rfl
theorem d87_10 : decode cX10_mayHaveCond 10 = .ok (.iconst 1, 1) := by decide +kernel
theorem s87_10 {d : Nat} {st : List Value} {σ : am_I} {ρ : am_R} {g : am_J} {τ : am_T} {Q : am_Q} {x0 : Value} : AW d 87 10 [x0] (st) σ ρ g τ Q = AW d 87 11 [x0] (.int 1 :: st) σ ρ g τ Q := aw_lc m87 d87_10 rfl rfl rfl
theorem d87_11 : decode cX10_mayHaveCond 11 = .ok (.goto 4, 3) := by decide +kernel
theorem s87_11 {d : Nat} {st : List Value} {σ : am_I} {ρ : am_R} {g : am_J} {τ : am_T} {Q : am_Q} {x0 : Value} : AW d 87 11 [x0] (st) σ ρ g τ Q = AW d 87 15 [x0] (st) σ ρ g τ Q := aw_lc m87 d87_11 rfl rfl rfl
theorem d87_14 : decode cX10_mayHaveCond 14 = .ok (.iconst 0, 1) := by decide +kernel
theorem s87_14 {d : Nat} {st : List Value} {σ : am_I} {ρ : am_R} {g : am_J} {τ : am_T} {Q : am_Q} {x0 : Value} : AW d 87 14 [x0] (st) σ ρ g τ Q = AW d 87 15 [x0] (.int 0 :: st) σ ρ g τ Q := aw_lc m87 d87_14 rfl rfl rfl
theorem d87_15 : decode cX10_mayHaveCond 15 = .ok (.ireturn, 1) := by decide +kernel
theorem s87_15 {d : Nat} {σ : am_I} {ρ : am_R} {g : am_J} {τ : am_T} {Q : am_Q} {x0 : Value} {v : Int32} (hv : am_b01 v = true) : AW d 87 15 [x0] ([.int v]) σ ρ g τ Q = Q (some (.int v)) σ ρ g τ := aw_rz m87 d87_15 rfl hv
theorem d88_0 : decode cX10_lineSort 0 = .ok (.aload_n 0, 1) := by decide +kernel
theorem s88_0 {d : Nat} {st : List Value} {σ : am_I} {ρ : am_R} {g : am_J} {τ : am_T} {Q : am_Q} {v : Nat} : AW d 88 0 [.ref v] (st) σ ρ g τ Q = AW d 88 1 [.ref v] (.ref v :: st) σ ρ g τ Q := aw_lc m88 d88_0 rfl rfl rfl
theorem d88_1 : decode cX10_lineSort 1 = .ok (.ldc 113, 2) := by decide +kernel
theorem s88_1 {d : Nat} {st : List Value} {σ : am_I} {ρ : am_R} {g : am_J} {τ : am_T} {Q : am_Q} {x0 : Value} : AW d 88 1 [x0] (st) σ ρ g τ Q = AW d 88 3 [x0] (.ref (am_BG + 3) :: st) σ ρ g τ Q := aw_lds m88 d88_1 rfl rfl
theorem d88_3 : decode cX10_lineSort 3 = .ok (.invokevirtual 93, 3) := by decide +kernel
theorem s88_3 {d : Nat} {st : List Value} {σ : am_I} {ρ : am_R} {g : am_J} {τ : am_T} {Q : am_Q} {x0 : Value} {p0 : Nat} {p1 : Nat} (ht : τ.1 p0 = 10) (hs : st.length ≤ 4) : AW (d + 1) 88 3 [x0] (.ref p1 :: .ref p0 :: st) σ ρ g τ Q = AW d 83 0 [.ref p0, .ref p1, am_jk] [] σ ρ g τ (fun r9 σ ρ g τ => AW (d + 1) 88 6 [x0] (r9.toList ++ st) σ ρ g τ Q) := aw_cv m88 d88_3 rfl m83 rfl rfl (by decide) en83 ok83 rfl ht hs
theorem d88_6 : decode cX10_lineSort 6 = .ok (.ifCond .eq 5, 3) := by decide +kernel
theorem s88_6 {d : Nat} {st : List Value} {σ : am_I} {ρ : am_R} {g : am_J} {τ : am_T} {Q : am_Q} {x0 : Value} {v : Int32} : AW d 88 6 [x0] (.int v :: st) σ ρ g τ Q = if v = 0 then AW d 88 11 [x0] (st) σ ρ g τ Q else AW d 88 9 [x0] (st) σ ρ g τ Q := aw_br m88 d88_6 rfl rfl rfl
theorem d88_9 : decode cX10_lineSort 9 = .ok (.iconst 0, 1) := by decide +kernel
theorem s88_9 {d : Nat} {st : List Value} {σ : am_I} {ρ : am_R} {g : am_J} {τ : am_T} {Q : am_Q} {x0 : Value} : AW d 88 9 [x0] (st) σ ρ g τ Q = AW d 88 10 [x0] (.int 0 :: st) σ ρ g τ Q := aw_lc m88 d88_9 rfl rfl rfl
theorem d88_10 : decode cX10_lineSort 10 = .ok (.ireturn, 1) := by decide +kernel
theorem s88_10 {d : Nat} {σ : am_I} {ρ : am_R} {g : am_J} {τ : am_T} {Q : am_Q} {x0 : Value} {v : Int32} : AW d 88 10 [x0] ([.int v]) σ ρ g τ Q = Q (some (.int v)) σ ρ g τ := aw_ri m88 d88_10 rfl
theorem d88_11 : decode cX10_lineSort 11 = .ok (.aload_n 0, 1) := by decide +kernel
theorem s88_11 {d : Nat} {st : List Value} {σ : am_I} {ρ : am_R} {g : am_J} {τ : am_T} {Q : am_Q} {v : Nat} : AW d 88 11 [.ref v] (st) σ ρ g τ Q = AW d 88 12 [.ref v] (.ref v :: st) σ ρ g τ Q := aw_lc m88 d88_11 rfl rfl rfl
theorem d88_12 : decode cX10_lineSort 12 = .ok (.ldc 115, 2) := by decide +kernel
theorem s88_12 {d : Nat} {st : List Value} {σ : am_I} {ρ : am_R} {g : am_J} {τ : am_T} {Q : am_Q} {x0 : Value} : AW d 88 12 [x0] (st) σ ρ g τ Q = AW d 88 14 [x0] (.ref (am_BG + 4) :: st) σ ρ g τ Q := aw_lds m88 d88_12 rfl rfl
theorem d88_14 : decode cX10_lineSort 14 = .ok (.invokevirtual 93, 3) := by decide +kernel
theorem s88_14 {d : Nat} {st : List Value} {σ : am_I} {ρ : am_R} {g : am_J} {τ : am_T} {Q : am_Q} {x0 : Value} {p0 : Nat} {p1 : Nat} (ht : τ.1 p0 = 10) (hs : st.length ≤ 4) : AW (d + 1) 88 14 [x0] (.ref p1 :: .ref p0 :: st) σ ρ g τ Q = AW d 83 0 [.ref p0, .ref p1, am_jk] [] σ ρ g τ (fun r9 σ ρ g τ => AW (d + 1) 88 17 [x0] (r9.toList ++ st) σ ρ g τ Q) := aw_cv m88 d88_14 rfl m83 rfl rfl (by decide) en83 ok83 rfl ht hs
theorem d88_17 : decode cX10_lineSort 17 = .ok (.ifCond .eq 5, 3) := by decide +kernel
theorem s88_17 {d : Nat} {st : List Value} {σ : am_I} {ρ : am_R} {g : am_J} {τ : am_T} {Q : am_Q} {x0 : Value} {v : Int32} : AW d 88 17 [x0] (.int v :: st) σ ρ g τ Q = if v = 0 then AW d 88 22 [x0] (st) σ ρ g τ Q else AW d 88 20 [x0] (st) σ ρ g τ Q := aw_br m88 d88_17 rfl rfl rfl
theorem d88_20 : decode cX10_lineSort 20 = .ok (.iconst 1, 1) := by decide +kernel
theorem s88_20 {d : Nat} {st : List Value} {σ : am_I} {ρ : am_R} {g : am_J} {τ : am_T} {Q : am_Q} {x0 : Value} : AW d 88 20 [x0] (st) σ ρ g τ Q = AW d 88 21 [x0] (.int 1 :: st) σ ρ g τ Q := aw_lc m88 d88_20 rfl rfl rfl
theorem d88_21 : decode cX10_lineSort 21 = .ok (.ireturn, 1) := by decide +kernel
theorem s88_21 {d : Nat} {σ : am_I} {ρ : am_R} {g : am_J} {τ : am_T} {Q : am_Q} {x0 : Value} {v : Int32} : AW d 88 21 [x0] ([.int v]) σ ρ g τ Q = Q (some (.int v)) σ ρ g τ := aw_ri m88 d88_21 rfl
theorem d88_22 : decode cX10_lineSort 22 = .ok (.aload_n 0, 1) := by decide +kernel
theorem s88_22 {d : Nat} {st : List Value} {σ : am_I} {ρ : am_R} {g : am_J} {τ : am_T} {Q : am_Q} {v : Nat} : AW d 88 22 [.ref v] (st) σ ρ g τ Q = AW d 88 23 [.ref v] (.ref v :: st) σ ρ g τ Q := aw_lc m88 d88_22 rfl rfl rfl
theorem d88_23 : decode cX10_lineSort 23 = .ok (.ldc 117, 2) := by decide +kernel
theorem s88_23 {d : Nat} {st : List Value} {σ : am_I} {ρ : am_R} {g : am_J} {τ : am_T} {Q : am_Q} {x0 : Value} : AW d 88 23 [x0] (st) σ ρ g τ Q = AW d 88 25 [x0] (.ref (am_BG + 5) :: st) σ ρ g τ Q := aw_lds m88 d88_23 rfl rfl
theorem d88_25 : decode cX10_lineSort 25 = .ok (.invokevirtual 93, 3) := by decide +kernel
theorem s88_25 {d : Nat} {st : List Value} {σ : am_I} {ρ : am_R} {g : am_J} {τ : am_T} {Q : am_Q} {x0 : Value} {p0 : Nat} {p1 : Nat} (ht : τ.1 p0 = 10) (hs : st.length ≤ 4) : AW (d + 1) 88 25 [x0] (.ref p1 :: .ref p0 :: st) σ ρ g τ Q = AW d 83 0 [.ref p0, .ref p1, am_jk] [] σ ρ g τ (fun r9 σ ρ g τ => AW (d + 1) 88 28 [x0] (r9.toList ++ st) σ ρ g τ Q) := aw_cv m88 d88_25 rfl m83 rfl rfl (by decide) en83 ok83 rfl ht hs
theorem d88_28 : decode cX10_lineSort 28 = .ok (.ifCond .eq 5, 3) := by decide +kernel
theorem s88_28 {d : Nat} {st : List Value} {σ : am_I} {ρ : am_R} {g : am_J} {τ : am_T} {Q : am_Q} {x0 : Value} {v : Int32} : AW d 88 28 [x0] (.int v :: st) σ ρ g τ Q = if v = 0 then AW d 88 33 [x0] (st) σ ρ g τ Q else AW d 88 31 [x0] (st) σ ρ g τ Q := aw_br m88 d88_28 rfl rfl rfl
theorem d88_31 : decode cX10_lineSort 31 = .ok (.iconst 2, 1) := by decide +kernel
theorem s88_31 {d : Nat} {st : List Value} {σ : am_I} {ρ : am_R} {g : am_J} {τ : am_T} {Q : am_Q} {x0 : Value} : AW d 88 31 [x0] (st) σ ρ g τ Q = AW d 88 32 [x0] (.int 2 :: st) σ ρ g τ Q := aw_lc m88 d88_31 rfl rfl rfl
theorem d88_32 : decode cX10_lineSort 32 = .ok (.ireturn, 1) := by decide +kernel
theorem s88_32 {d : Nat} {σ : am_I} {ρ : am_R} {g : am_J} {τ : am_T} {Q : am_Q} {x0 : Value} {v : Int32} : AW d 88 32 [x0] ([.int v]) σ ρ g τ Q = Q (some (.int v)) σ ρ g τ := aw_ri m88 d88_32 rfl
theorem d88_33 : decode cX10_lineSort 33 = .ok (.aload_n 0, 1) := by decide +kernel
theorem s88_33 {d : Nat} {st : List Value} {σ : am_I} {ρ : am_R} {g : am_J} {τ : am_T} {Q : am_Q} {v : Nat} : AW d 88 33 [.ref v] (st) σ ρ g τ Q = AW d 88 34 [.ref v] (.ref v :: st) σ ρ g τ Q := aw_lc m88 d88_33 rfl rfl rfl
theorem d88_34 : decode cX10_lineSort 34 = .ok (.ldc 119, 2) := by decide +kernel
theorem s88_34 {d : Nat} {st : List Value} {σ : am_I} {ρ : am_R} {g : am_J} {τ : am_T} {Q : am_Q} {x0 : Value} : AW d 88 34 [x0] (st) σ ρ g τ Q = AW d 88 36 [x0] (.ref (am_BG + 6) :: st) σ ρ g τ Q := aw_lds m88 d88_34 rfl rfl
theorem d88_36 : decode cX10_lineSort 36 = .ok (.invokevirtual 93, 3) := by decide +kernel
theorem s88_36 {d : Nat} {st : List Value} {σ : am_I} {ρ : am_R} {g : am_J} {τ : am_T} {Q : am_Q} {x0 : Value} {p0 : Nat} {p1 : Nat} (ht : τ.1 p0 = 10) (hs : st.length ≤ 4) : AW (d + 1) 88 36 [x0] (.ref p1 :: .ref p0 :: st) σ ρ g τ Q = AW d 83 0 [.ref p0, .ref p1, am_jk] [] σ ρ g τ (fun r9 σ ρ g τ => AW (d + 1) 88 39 [x0] (r9.toList ++ st) σ ρ g τ Q) := aw_cv m88 d88_36 rfl m83 rfl rfl (by decide) en83 ok83 rfl ht hs
theorem d88_39 : decode cX10_lineSort 39 = .ok (.ifCond .eq 5, 3) := by decide +kernel
theorem s88_39 {d : Nat} {st : List Value} {σ : am_I} {ρ : am_R} {g : am_J} {τ : am_T} {Q : am_Q} {x0 : Value} {v : Int32} : AW d 88 39 [x0] (.int v :: st) σ ρ g τ Q = if v = 0 then AW d 88 44 [x0] (st) σ ρ g τ Q else AW d 88 42 [x0] (st) σ ρ g τ Q := aw_br m88 d88_39 rfl rfl rfl
theorem d88_42 : decode cX10_lineSort 42 = .ok (.iconst 3, 1) := by decide +kernel
theorem s88_42 {d : Nat} {st : List Value} {σ : am_I} {ρ : am_R} {g : am_J} {τ : am_T} {Q : am_Q} {x0 : Value} : AW d 88 42 [x0] (st) σ ρ g τ Q = AW d 88 43 [x0] (.int 3 :: st) σ ρ g τ Q := aw_lc m88 d88_42 rfl rfl rfl
theorem d88_43 : decode cX10_lineSort 43 = .ok (.ireturn, 1) := by decide +kernel
theorem s88_43 {d : Nat} {σ : am_I} {ρ : am_R} {g : am_J} {τ : am_T} {Q : am_Q} {x0 : Value} {v : Int32} : AW d 88 43 [x0] ([.int v]) σ ρ g τ Q = Q (some (.int v)) σ ρ g τ := aw_ri m88 d88_43 rfl
theorem d88_44 : decode cX10_lineSort 44 = .ok (.aload_n 0, 1) := by decide +kernel
theorem s88_44 {d : Nat} {st : List Value} {σ : am_I} {ρ : am_R} {g : am_J} {τ : am_T} {Q : am_Q} {v : Nat} : AW d 88 44 [.ref v] (st) σ ρ g τ Q = AW d 88 45 [.ref v] (.ref v :: st) σ ρ g τ Q := aw_lc m88 d88_44 rfl rfl rfl
theorem d88_45 : decode cX10_lineSort 45 = .ok (.ldc 121, 2) := by decide +kernel
theorem s88_45 {d : Nat} {st : List Value} {σ : am_I} {ρ : am_R} {g : am_J} {τ : am_T} {Q : am_Q} {x0 : Value} : AW d 88 45 [x0] (st) σ ρ g τ Q = AW d 88 47 [x0] (.ref (am_BG + 7) :: st) σ ρ g τ Q := aw_lds m88 d88_45 rfl rfl
theorem d88_47 : decode cX10_lineSort 47 = .ok (.invokevirtual 93, 3) := by decide +kernel
theorem s88_47 {d : Nat} {st : List Value} {σ : am_I} {ρ : am_R} {g : am_J} {τ : am_T} {Q : am_Q} {x0 : Value} {p0 : Nat} {p1 : Nat} (ht : τ.1 p0 = 10) (hs : st.length ≤ 4) : AW (d + 1) 88 47 [x0] (.ref p1 :: .ref p0 :: st) σ ρ g τ Q = AW d 83 0 [.ref p0, .ref p1, am_jk] [] σ ρ g τ (fun r9 σ ρ g τ => AW (d + 1) 88 50 [x0] (r9.toList ++ st) σ ρ g τ Q) := aw_cv m88 d88_47 rfl m83 rfl rfl (by decide) en83 ok83 rfl ht hs
theorem d88_50 : decode cX10_lineSort 50 = .ok (.ifCond .eq 7, 3) := by decide +kernel
theorem s88_50 {d : Nat} {st : List Value} {σ : am_I} {ρ : am_R} {g : am_J} {τ : am_T} {Q : am_Q} {x0 : Value} {v : Int32} : AW d 88 50 [x0] (.int v :: st) σ ρ g τ Q = if v = 0 then AW d 88 57 [x0] (st) σ ρ g τ Q else AW d 88 53 [x0] (st) σ ρ g τ Q := aw_br m88 d88_50 rfl rfl rfl
theorem d88_53 : decode cX10_lineSort 53 = .ok (.iconst 4, 1) := by decide +kernel
theorem s88_53 {d : Nat} {st : List Value} {σ : am_I} {ρ : am_R} {g : am_J} {τ : am_T} {Q : am_Q} {x0 : Value} : AW d 88 53 [x0] (st) σ ρ g τ Q = AW d 88 54 [x0] (.int 4 :: st) σ ρ g τ Q := aw_lc m88 d88_53 rfl rfl rfl
theorem d88_54 : decode cX10_lineSort 54 = .ok (.goto 4, 3) := by decide +kernel
theorem s88_54 {d : Nat} {st : List Value} {σ : am_I} {ρ : am_R} {g : am_J} {τ : am_T} {Q : am_Q} {x0 : Value} : AW d 88 54 [x0] (st) σ ρ g τ Q = AW d 88 58 [x0] (st) σ ρ g τ Q := aw_lc m88 d88_54 rfl rfl rfl
theorem d88_57 : decode cX10_lineSort 57 = .ok (.iconst (-1), 1) := by decide +kernel
theorem s88_57 {d : Nat} {st : List Value} {σ : am_I} {ρ : am_R} {g : am_J} {τ : am_T} {Q : am_Q} {x0 : Value} : AW d 88 57 [x0] (st) σ ρ g τ Q = AW d 88 58 [x0] (.int (-1) :: st) σ ρ g τ Q := aw_lc m88 d88_57 rfl rfl rfl
theorem d88_58 : decode cX10_lineSort 58 = .ok (.ireturn, 1) := by decide +kernel
theorem s88_58 {d : Nat} {σ : am_I} {ρ : am_R} {g : am_J} {τ : am_T} {Q : am_Q} {x0 : Value} {v : Int32} : AW d 88 58 [x0] ([.int v]) σ ρ g τ Q = Q (some (.int v)) σ ρ g τ := aw_ri m88 d88_58 rfl
theorem d89_0 : decode cX10_mostOf 0 = .ok (.iload_n 0, 1) := by decide +kernel
theorem s89_0 {d : Nat} {st : List Value} {σ : am_I} {ρ : am_R} {g : am_J} {τ : am_T} {Q : am_Q} {v : Int32} : AW d 89 0 [.int v] (st) σ ρ g τ Q = AW d 89 1 [.int v] (.int v :: st) σ ρ g τ Q := aw_lc m89 d89_0 rfl rfl rfl
theorem d89_1 : decode cX10_mostOf 1 = .ok (.ifCond .ne 6, 3) := by decide +kernel
theorem s89_1 {d : Nat} {st : List Value} {σ : am_I} {ρ : am_R} {g : am_J} {τ : am_T} {Q : am_Q} {x0 : Value} {v : Int32} : AW d 89 1 [x0] (.int v :: st) σ ρ g τ Q = if ¬ v = 0 then AW d 89 7 [x0] (st) σ ρ g τ Q else AW d 89 4 [x0] (st) σ ρ g τ Q := aw_br m89 d89_1 rfl rfl rfl
theorem d89_4 : decode cX10_mostOf 4 = .ok (.bipush 9, 2) := by decide +kernel
theorem s89_4 {d : Nat} {st : List Value} {σ : am_I} {ρ : am_R} {g : am_J} {τ : am_T} {Q : am_Q} {x0 : Value} : AW d 89 4 [x0] (st) σ ρ g τ Q = AW d 89 6 [x0] (.int 9 :: st) σ ρ g τ Q := aw_lc m89 d89_4 rfl rfl rfl
theorem d89_6 : decode cX10_mostOf 6 = .ok (.ireturn, 1) := by decide +kernel
theorem s89_6 {d : Nat} {σ : am_I} {ρ : am_R} {g : am_J} {τ : am_T} {Q : am_Q} {x0 : Value} {v : Int32} : AW d 89 6 [x0] ([.int v]) σ ρ g τ Q = Q (some (.int v)) σ ρ g τ := aw_ri m89 d89_6 rfl
theorem d89_7 : decode cX10_mostOf 7 = .ok (.iload_n 0, 1) := by decide +kernel
theorem s89_7 {d : Nat} {st : List Value} {σ : am_I} {ρ : am_R} {g : am_J} {τ : am_T} {Q : am_Q} {v : Int32} : AW d 89 7 [.int v] (st) σ ρ g τ Q = AW d 89 8 [.int v] (.int v :: st) σ ρ g τ Q := aw_lc m89 d89_7 rfl rfl rfl
theorem d89_8 : decode cX10_mostOf 8 = .ok (.iconst 3, 1) := by decide +kernel
theorem s89_8 {d : Nat} {st : List Value} {σ : am_I} {ρ : am_R} {g : am_J} {τ : am_T} {Q : am_Q} {x0 : Value} : AW d 89 8 [x0] (st) σ ρ g τ Q = AW d 89 9 [x0] (.int 3 :: st) σ ρ g τ Q := aw_lc m89 d89_8 rfl rfl rfl
theorem d89_9 : decode cX10_mostOf 9 = .ok (.if_icmp .ne 9, 3) := by decide +kernel
theorem s89_9 {d : Nat} {st : List Value} {σ : am_I} {ρ : am_R} {g : am_J} {τ : am_T} {Q : am_Q} {x0 : Value} {v w : Int32} : AW d 89 9 [x0] (.int w :: .int v :: st) σ ρ g τ Q = if ¬ v = w then AW d 89 18 [x0] (st) σ ρ g τ Q else AW d 89 12 [x0] (st) σ ρ g τ Q := aw_br m89 d89_9 rfl rfl rfl
theorem d89_12 : decode cX10_mostOf 12 = .ok (.sipush 999, 3) := by decide +kernel
theorem s89_12 {d : Nat} {st : List Value} {σ : am_I} {ρ : am_R} {g : am_J} {τ : am_T} {Q : am_Q} {x0 : Value} : AW d 89 12 [x0] (st) σ ρ g τ Q = AW d 89 15 [x0] (.int 999 :: st) σ ρ g τ Q := aw_lc m89 d89_12 rfl rfl rfl
theorem d89_15 : decode cX10_mostOf 15 = .ok (.goto 5, 3) := by decide +kernel
theorem s89_15 {d : Nat} {st : List Value} {σ : am_I} {ρ : am_R} {g : am_J} {τ : am_T} {Q : am_Q} {x0 : Value} : AW d 89 15 [x0] (st) σ ρ g τ Q = AW d 89 20 [x0] (st) σ ρ g τ Q := aw_lc m89 d89_15 rfl rfl rfl
theorem d89_18 : decode cX10_mostOf 18 = .ok (.bipush 100, 2) := by decide +kernel
theorem s89_18 {d : Nat} {st : List Value} {σ : am_I} {ρ : am_R} {g : am_J} {τ : am_T} {Q : am_Q} {x0 : Value} : AW d 89 18 [x0] (st) σ ρ g τ Q = AW d 89 20 [x0] (.int 100 :: st) σ ρ g τ Q := aw_lc m89 d89_18 rfl rfl rfl
theorem d89_20 : decode cX10_mostOf 20 = .ok (.ireturn, 1) := by decide +kernel
theorem s89_20 {d : Nat} {σ : am_I} {ρ : am_R} {g : am_J} {τ : am_T} {Q : am_Q} {x0 : Value} {v : Int32} : AW d 89 20 [x0] ([.int v]) σ ρ g τ Q = Q (some (.int v)) σ ρ g τ := aw_ri m89 d89_20 rfl
theorem d90_0 : decode cX10_readTakeSort 0 = .ok (.aload_n 0, 1) := by decide +kernel
theorem s90_0 {d : Nat} {st : List Value} {σ : am_I} {ρ : am_R} {g : am_J} {τ : am_T} {Q : am_Q} {x1 : Value} {v : Nat} : AW d 90 0 [.ref v, x1] (st) σ ρ g τ Q = AW d 90 1 [.ref v, x1] (.ref v :: st) σ ρ g τ Q := aw_lc m90 d90_0 rfl rfl rfl
theorem d90_1 : decode cX10_readTakeSort 1 = .ok (.ldc 123, 2) := by decide +kernel
theorem s90_1 {d : Nat} {st : List Value} {σ : am_I} {ρ : am_R} {g : am_J} {τ : am_T} {Q : am_Q} {x0 x1 : Value} : AW d 90 1 [x0, x1] (st) σ ρ g τ Q = AW d 90 3 [x0, x1] (.ref (am_BG + 8) :: st) σ ρ g τ Q := aw_lds m90 d90_1 rfl rfl
theorem d90_3 : decode cX10_readTakeSort 3 = .ok (.invokevirtual 93, 3) := by decide +kernel
theorem s90_3 {d : Nat} {st : List Value} {σ : am_I} {ρ : am_R} {g : am_J} {τ : am_T} {Q : am_Q} {x0 x1 : Value} {p0 : Nat} {p1 : Nat} (ht : τ.1 p0 = 10) (hs : st.length ≤ 4) : AW (d + 1) 90 3 [x0, x1] (.ref p1 :: .ref p0 :: st) σ ρ g τ Q = AW d 83 0 [.ref p0, .ref p1, am_jk] [] σ ρ g τ (fun r9 σ ρ g τ => AW (d + 1) 90 6 [x0, x1] (r9.toList ++ st) σ ρ g τ Q) := aw_cv m90 d90_3 rfl m83 rfl rfl (by decide) en83 ok83 rfl ht hs
theorem d90_6 : decode cX10_readTakeSort 6 = .ok (.ifCond .ne 5, 3) := by decide +kernel
theorem s90_6 {d : Nat} {st : List Value} {σ : am_I} {ρ : am_R} {g : am_J} {τ : am_T} {Q : am_Q} {x0 x1 : Value} {v : Int32} : AW d 90 6 [x0, x1] (.int v :: st) σ ρ g τ Q = if ¬ v = 0 then AW d 90 11 [x0, x1] (st) σ ρ g τ Q else AW d 90 9 [x0, x1] (st) σ ρ g τ Q := aw_br m90 d90_6 rfl rfl rfl
theorem d90_9 : decode cX10_readTakeSort 9 = .ok (.iconst (-1), 1) := by decide +kernel
theorem s90_9 {d : Nat} {st : List Value} {σ : am_I} {ρ : am_R} {g : am_J} {τ : am_T} {Q : am_Q} {x0 x1 : Value} : AW d 90 9 [x0, x1] (st) σ ρ g τ Q = AW d 90 10 [x0, x1] (.int (-1) :: st) σ ρ g τ Q := aw_lc m90 d90_9 rfl rfl rfl
theorem d90_10 : decode cX10_readTakeSort 10 = .ok (.ireturn, 1) := by decide +kernel
theorem s90_10 {d : Nat} {σ : am_I} {ρ : am_R} {g : am_J} {τ : am_T} {Q : am_Q} {x0 x1 : Value} {v : Int32} : AW d 90 10 [x0, x1] ([.int v]) σ ρ g τ Q = Q (some (.int v)) σ ρ g τ := aw_ri m90 d90_10 rfl
theorem d90_11 : decode cX10_readTakeSort 11 = .ok (.aload_n 0, 1) := by decide +kernel
theorem s90_11 {d : Nat} {st : List Value} {σ : am_I} {ρ : am_R} {g : am_J} {τ : am_T} {Q : am_Q} {x1 : Value} {v : Nat} : AW d 90 11 [.ref v, x1] (st) σ ρ g τ Q = AW d 90 12 [.ref v, x1] (.ref v :: st) σ ρ g τ Q := aw_lc m90 d90_11 rfl rfl rfl
theorem d90_12 : decode cX10_readTakeSort 12 = .ok (.invokevirtual 47, 3) := by decide +kernel
theorem s90_12 {d : Nat} {st : List Value} {σ : am_I} {ρ : am_R} {g : am_J} {τ : am_T} {Q : am_Q} {x0 x1 : Value} {p0 : Nat} (ht : τ.1 p0 = 10) (hs : st.length ≤ 4) : AW (d + 1) 90 12 [x0, x1] (.ref p0 :: st) σ ρ g τ Q = AW d 80 0 [.ref p0, am_jk] [] σ ρ g τ (fun r9 σ ρ g τ => AW (d + 1) 90 15 [x0, x1] (r9.toList ++ st) σ ρ g τ Q) := aw_cv m90 d90_12 rfl m80 rfl rfl (by decide) en80 ok80 rfl ht hs
theorem d90_15 : decode cX10_readTakeSort 15 = .ok (.aload_n 0, 1) := by decide +kernel
theorem s90_15 {d : Nat} {st : List Value} {σ : am_I} {ρ : am_R} {g : am_J} {τ : am_T} {Q : am_Q} {x1 : Value} {v : Nat} : AW d 90 15 [.ref v, x1] (st) σ ρ g τ Q = AW d 90 16 [.ref v, x1] (.ref v :: st) σ ρ g τ Q := aw_lc m90 d90_15 rfl rfl rfl
theorem d90_16 : decode cX10_readTakeSort 16 = .ok (.invokevirtual 125, 3) := by decide +kernel
theorem s90_16 {d : Nat} {st : List Value} {σ : am_I} {ρ : am_R} {g : am_J} {τ : am_T} {Q : am_Q} {x0 x1 : Value} {p0 : Nat} (ht : τ.1 p0 = 10) (hs : st.length ≤ 4) : AW (d + 1) 90 16 [x0, x1] (.ref p0 :: st) σ ρ g τ Q = AW d 91 0 [.ref p0] [] σ ρ g τ (fun r9 σ ρ g τ => AW (d + 1) 90 19 [x0, x1] (r9.toList ++ st) σ ρ g τ Q) := aw_cv m90 d90_16 rfl m91 rfl rfl (by decide) en91 ok91 rfl ht hs
theorem d90_19 : decode cX10_readTakeSort 19 = .ok (.istore_n 1, 1) := by decide +kernel
theorem s90_19r {d : Nat} {st : List Value} {σ : am_I} {ρ : am_R} {g : am_J} {τ : am_T} {Q : am_Q} {x1 : Value} {v : Int32} {u : Nat} : AW d 90 19 [.ref u, x1] (.int v :: st) σ ρ g τ Q = AW d 90 20 [.ref u, .int v] (st) σ ρ g τ Q := aw_lc m90 d90_19 rfl rfl rfl
theorem d90_20 : decode cX10_readTakeSort 20 = .ok (.iload_n 1, 1) := by decide +kernel
theorem s90_20 {d : Nat} {st : List Value} {σ : am_I} {ρ : am_R} {g : am_J} {τ : am_T} {Q : am_Q} {x0 : Value} {v : Int32} : AW d 90 20 [x0, .int v] (st) σ ρ g τ Q = AW d 90 21 [x0, .int v] (.int v :: st) σ ρ g τ Q := aw_lc m90 d90_20 rfl rfl rfl
theorem d90_21 : decode cX10_readTakeSort 21 = .ok (.ifCond .lt 7, 3) := by decide +kernel
theorem s90_21 {d : Nat} {st : List Value} {σ : am_I} {ρ : am_R} {g : am_J} {τ : am_T} {Q : am_Q} {x0 x1 : Value} {v : Int32} : AW d 90 21 [x0, x1] (.int v :: st) σ ρ g τ Q = if v < 0 then AW d 90 28 [x0, x1] (st) σ ρ g τ Q else AW d 90 24 [x0, x1] (st) σ ρ g τ Q := aw_br m90 d90_21 rfl rfl rfl
theorem d90_24 : decode cX10_readTakeSort 24 = .ok (.aload_n 0, 1) := by decide +kernel
theorem s90_24 {d : Nat} {st : List Value} {σ : am_I} {ρ : am_R} {g : am_J} {τ : am_T} {Q : am_Q} {x1 : Value} {v : Nat} : AW d 90 24 [.ref v, x1] (st) σ ρ g τ Q = AW d 90 25 [.ref v, x1] (.ref v :: st) σ ρ g τ Q := aw_lc m90 d90_24 rfl rfl rfl
theorem d90_25 : decode cX10_readTakeSort 25 = .ok (.invokevirtual 47, 3) := by decide +kernel
theorem s90_25 {d : Nat} {st : List Value} {σ : am_I} {ρ : am_R} {g : am_J} {τ : am_T} {Q : am_Q} {x0 x1 : Value} {p0 : Nat} (ht : τ.1 p0 = 10) (hs : st.length ≤ 4) : AW (d + 1) 90 25 [x0, x1] (.ref p0 :: st) σ ρ g τ Q = AW d 80 0 [.ref p0, am_jk] [] σ ρ g τ (fun r9 σ ρ g τ => AW (d + 1) 90 28 [x0, x1] (r9.toList ++ st) σ ρ g τ Q) := aw_cv m90 d90_25 rfl m80 rfl rfl (by decide) en80 ok80 rfl ht hs
theorem d90_28 : decode cX10_readTakeSort 28 = .ok (.iload_n 1, 1) := by decide +kernel
theorem s90_28 {d : Nat} {st : List Value} {σ : am_I} {ρ : am_R} {g : am_J} {τ : am_T} {Q : am_Q} {x0 : Value} {v : Int32} : AW d 90 28 [x0, .int v] (st) σ ρ g τ Q = AW d 90 29 [x0, .int v] (.int v :: st) σ ρ g τ Q := aw_lc m90 d90_28 rfl rfl rfl
theorem d90_29 : decode cX10_readTakeSort 29 = .ok (.ireturn, 1) := by decide +kernel
theorem s90_29 {d : Nat} {σ : am_I} {ρ : am_R} {g : am_J} {τ : am_T} {Q : am_Q} {x0 x1 : Value} {v : Int32} : AW d 90 29 [x0, x1] ([.int v]) σ ρ g τ Q = Q (some (.int v)) σ ρ g τ := aw_ri m90 d90_29 rfl
theorem d91_0 : decode cX10_revenueSort 0 = .ok (.aload_n 0, 1) := by decide +kernel
theorem s91_0 {d : Nat} {st : List Value} {σ : am_I} {ρ : am_R} {g : am_J} {τ : am_T} {Q : am_Q} {v : Nat} : AW d 91 0 [.ref v] (st) σ ρ g τ Q = AW d 91 1 [.ref v] (.ref v :: st) σ ρ g τ Q := aw_lc m91 d91_0 rfl rfl rfl
theorem d91_1 : decode cX10_revenueSort 1 = .ok (.ldc 128, 2) := by decide +kernel
theorem s91_1 {d : Nat} {st : List Value} {σ : am_I} {ρ : am_R} {g : am_J} {τ : am_T} {Q : am_Q} {x0 : Value} : AW d 91 1 [x0] (st) σ ρ g τ Q = AW d 91 3 [x0] (.ref (am_BG + 9) :: st) σ ρ g τ Q := aw_lds m91 d91_1 rfl rfl
theorem d91_3 : decode cX10_revenueSort 3 = .ok (.invokevirtual 93, 3) := by decide +kernel
theorem s91_3 {d : Nat} {st : List Value} {σ : am_I} {ρ : am_R} {g : am_J} {τ : am_T} {Q : am_Q} {x0 : Value} {p0 : Nat} {p1 : Nat} (ht : τ.1 p0 = 10) (hs : st.length ≤ 4) : AW (d + 1) 91 3 [x0] (.ref p1 :: .ref p0 :: st) σ ρ g τ Q = AW d 83 0 [.ref p0, .ref p1, am_jk] [] σ ρ g τ (fun r9 σ ρ g τ => AW (d + 1) 91 6 [x0] (r9.toList ++ st) σ ρ g τ Q) := aw_cv m91 d91_3 rfl m83 rfl rfl (by decide) en83 ok83 rfl ht hs
theorem d91_6 : decode cX10_revenueSort 6 = .ok (.ifCond .eq 5, 3) := by decide +kernel
theorem s91_6 {d : Nat} {st : List Value} {σ : am_I} {ρ : am_R} {g : am_J} {τ : am_T} {Q : am_Q} {x0 : Value} {v : Int32} : AW d 91 6 [x0] (.int v :: st) σ ρ g τ Q = if v = 0 then AW d 91 11 [x0] (st) σ ρ g τ Q else AW d 91 9 [x0] (st) σ ρ g τ Q := aw_br m91 d91_6 rfl rfl rfl
theorem d91_9 : decode cX10_revenueSort 9 = .ok (.iconst 0, 1) := by decide +kernel
theorem s91_9 {d : Nat} {st : List Value} {σ : am_I} {ρ : am_R} {g : am_J} {τ : am_T} {Q : am_Q} {x0 : Value} : AW d 91 9 [x0] (st) σ ρ g τ Q = AW d 91 10 [x0] (.int 0 :: st) σ ρ g τ Q := aw_lc m91 d91_9 rfl rfl rfl
theorem d91_10 : decode cX10_revenueSort 10 = .ok (.ireturn, 1) := by decide +kernel
theorem s91_10 {d : Nat} {σ : am_I} {ρ : am_R} {g : am_J} {τ : am_T} {Q : am_Q} {x0 : Value} {v : Int32} : AW d 91 10 [x0] ([.int v]) σ ρ g τ Q = Q (some (.int v)) σ ρ g τ := aw_ri m91 d91_10 rfl
theorem d91_11 : decode cX10_revenueSort 11 = .ok (.aload_n 0, 1) := by decide +kernel
theorem s91_11 {d : Nat} {st : List Value} {σ : am_I} {ρ : am_R} {g : am_J} {τ : am_T} {Q : am_Q} {v : Nat} : AW d 91 11 [.ref v] (st) σ ρ g τ Q = AW d 91 12 [.ref v] (.ref v :: st) σ ρ g τ Q := aw_lc m91 d91_11 rfl rfl rfl
theorem d91_12 : decode cX10_revenueSort 12 = .ok (.ldc 130, 2) := by decide +kernel
theorem s91_12 {d : Nat} {st : List Value} {σ : am_I} {ρ : am_R} {g : am_J} {τ : am_T} {Q : am_Q} {x0 : Value} : AW d 91 12 [x0] (st) σ ρ g τ Q = AW d 91 14 [x0] (.ref (am_BG + 10) :: st) σ ρ g τ Q := aw_lds m91 d91_12 rfl rfl
theorem d91_14 : decode cX10_revenueSort 14 = .ok (.invokevirtual 93, 3) := by decide +kernel
theorem s91_14 {d : Nat} {st : List Value} {σ : am_I} {ρ : am_R} {g : am_J} {τ : am_T} {Q : am_Q} {x0 : Value} {p0 : Nat} {p1 : Nat} (ht : τ.1 p0 = 10) (hs : st.length ≤ 4) : AW (d + 1) 91 14 [x0] (.ref p1 :: .ref p0 :: st) σ ρ g τ Q = AW d 83 0 [.ref p0, .ref p1, am_jk] [] σ ρ g τ (fun r9 σ ρ g τ => AW (d + 1) 91 17 [x0] (r9.toList ++ st) σ ρ g τ Q) := aw_cv m91 d91_14 rfl m83 rfl rfl (by decide) en83 ok83 rfl ht hs
theorem d91_17 : decode cX10_revenueSort 17 = .ok (.ifCond .eq 5, 3) := by decide +kernel
theorem s91_17 {d : Nat} {st : List Value} {σ : am_I} {ρ : am_R} {g : am_J} {τ : am_T} {Q : am_Q} {x0 : Value} {v : Int32} : AW d 91 17 [x0] (.int v :: st) σ ρ g τ Q = if v = 0 then AW d 91 22 [x0] (st) σ ρ g τ Q else AW d 91 20 [x0] (st) σ ρ g τ Q := aw_br m91 d91_17 rfl rfl rfl
theorem d91_20 : decode cX10_revenueSort 20 = .ok (.iconst 1, 1) := by decide +kernel
theorem s91_20 {d : Nat} {st : List Value} {σ : am_I} {ρ : am_R} {g : am_J} {τ : am_T} {Q : am_Q} {x0 : Value} : AW d 91 20 [x0] (st) σ ρ g τ Q = AW d 91 21 [x0] (.int 1 :: st) σ ρ g τ Q := aw_lc m91 d91_20 rfl rfl rfl
theorem d91_21 : decode cX10_revenueSort 21 = .ok (.ireturn, 1) := by decide +kernel
theorem s91_21 {d : Nat} {σ : am_I} {ρ : am_R} {g : am_J} {τ : am_T} {Q : am_Q} {x0 : Value} {v : Int32} : AW d 91 21 [x0] ([.int v]) σ ρ g τ Q = Q (some (.int v)) σ ρ g τ := aw_ri m91 d91_21 rfl
theorem d91_22 : decode cX10_revenueSort 22 = .ok (.aload_n 0, 1) := by decide +kernel
theorem s91_22 {d : Nat} {st : List Value} {σ : am_I} {ρ : am_R} {g : am_J} {τ : am_T} {Q : am_Q} {v : Nat} : AW d 91 22 [.ref v] (st) σ ρ g τ Q = AW d 91 23 [.ref v] (.ref v :: st) σ ρ g τ Q := aw_lc m91 d91_22 rfl rfl rfl
theorem d91_23 : decode cX10_revenueSort 23 = .ok (.ldc 132, 2) := by decide +kernel
theorem s91_23 {d : Nat} {st : List Value} {σ : am_I} {ρ : am_R} {g : am_J} {τ : am_T} {Q : am_Q} {x0 : Value} : AW d 91 23 [x0] (st) σ ρ g τ Q = AW d 91 25 [x0] (.ref (am_BG + 11) :: st) σ ρ g τ Q := aw_lds m91 d91_23 rfl rfl
theorem d91_25 : decode cX10_revenueSort 25 = .ok (.invokevirtual 93, 3) := by decide +kernel
theorem s91_25 {d : Nat} {st : List Value} {σ : am_I} {ρ : am_R} {g : am_J} {τ : am_T} {Q : am_Q} {x0 : Value} {p0 : Nat} {p1 : Nat} (ht : τ.1 p0 = 10) (hs : st.length ≤ 4) : AW (d + 1) 91 25 [x0] (.ref p1 :: .ref p0 :: st) σ ρ g τ Q = AW d 83 0 [.ref p0, .ref p1, am_jk] [] σ ρ g τ (fun r9 σ ρ g τ => AW (d + 1) 91 28 [x0] (r9.toList ++ st) σ ρ g τ Q) := aw_cv m91 d91_25 rfl m83 rfl rfl (by decide) en83 ok83 rfl ht hs
theorem d91_28 : decode cX10_revenueSort 28 = .ok (.ifCond .eq 7, 3) := by decide +kernel
theorem s91_28 {d : Nat} {st : List Value} {σ : am_I} {ρ : am_R} {g : am_J} {τ : am_T} {Q : am_Q} {x0 : Value} {v : Int32} : AW d 91 28 [x0] (.int v :: st) σ ρ g τ Q = if v = 0 then AW d 91 35 [x0] (st) σ ρ g τ Q else AW d 91 31 [x0] (st) σ ρ g τ Q := aw_br m91 d91_28 rfl rfl rfl
theorem d91_31 : decode cX10_revenueSort 31 = .ok (.iconst 2, 1) := by decide +kernel
theorem s91_31 {d : Nat} {st : List Value} {σ : am_I} {ρ : am_R} {g : am_J} {τ : am_T} {Q : am_Q} {x0 : Value} : AW d 91 31 [x0] (st) σ ρ g τ Q = AW d 91 32 [x0] (.int 2 :: st) σ ρ g τ Q := aw_lc m91 d91_31 rfl rfl rfl
theorem d91_32 : decode cX10_revenueSort 32 = .ok (.goto 4, 3) := by decide +kernel
theorem s91_32 {d : Nat} {st : List Value} {σ : am_I} {ρ : am_R} {g : am_J} {τ : am_T} {Q : am_Q} {x0 : Value} : AW d 91 32 [x0] (st) σ ρ g τ Q = AW d 91 36 [x0] (st) σ ρ g τ Q := aw_lc m91 d91_32 rfl rfl rfl
theorem d91_35 : decode cX10_revenueSort 35 = .ok (.iconst (-1), 1) := by decide +kernel
theorem s91_35 {d : Nat} {st : List Value} {σ : am_I} {ρ : am_R} {g : am_J} {τ : am_T} {Q : am_Q} {x0 : Value} : AW d 91 35 [x0] (st) σ ρ g τ Q = AW d 91 36 [x0] (.int (-1) :: st) σ ρ g τ Q := aw_lc m91 d91_35 rfl rfl rfl
theorem d91_36 : decode cX10_revenueSort 36 = .ok (.ireturn, 1) := by decide +kernel
theorem s91_36 {d : Nat} {σ : am_I} {ρ : am_R} {g : am_J} {τ : am_T} {Q : am_Q} {x0 : Value} {v : Int32} : AW d 91 36 [x0] ([.int v]) σ ρ g τ Q = Q (some (.int v)) σ ρ g τ := aw_ri m91 d91_36 rfl
theorem d92_0 : decode cX10_factNamed 0 = .ok (.aload_n 0, 1) := by decide +kernel
theorem s92_0 {d : Nat} {st : List Value} {σ : am_I} {ρ : am_R} {g : am_J} {τ : am_T} {Q : am_Q} {v : Nat} : AW d 92 0 [.ref v] (st) σ ρ g τ Q = AW d 92 1 [.ref v] (.ref v :: st) σ ρ g τ Q := aw_lc m92 d92_0 rfl rfl rfl
theorem d92_1 : decode cX10_factNamed 1 = .ok (.ldc 134, 2) := by decide +kernel
theorem s92_1 {d : Nat} {st : List Value} {σ : am_I} {ρ : am_R} {g : am_J} {τ : am_T} {Q : am_Q} {x0 : Value} : AW d 92 1 [x0] (st) σ ρ g τ Q = AW d 92 3 [x0] (.ref (am_BG + 14) :: st) σ ρ g τ Q := aw_lds m92 d92_1 rfl rfl
theorem d92_3 : decode cX10_factNamed 3 = .ok (.invokevirtual 93, 3) := by decide +kernel
theorem s92_3 {d : Nat} {st : List Value} {σ : am_I} {ρ : am_R} {g : am_J} {τ : am_T} {Q : am_Q} {x0 : Value} {p0 : Nat} {p1 : Nat} (ht : τ.1 p0 = 10) (hs : st.length ≤ 4) : AW (d + 1) 92 3 [x0] (.ref p1 :: .ref p0 :: st) σ ρ g τ Q = AW d 83 0 [.ref p0, .ref p1, am_jk] [] σ ρ g τ (fun r9 σ ρ g τ => AW (d + 1) 92 6 [x0] (r9.toList ++ st) σ ρ g τ Q) := aw_cv m92 d92_3 rfl m83 rfl rfl (by decide) en83 ok83 rfl ht hs
theorem d92_6 : decode cX10_factNamed 6 = .ok (.ifCond .eq 5, 3) := by decide +kernel
theorem s92_6 {d : Nat} {st : List Value} {σ : am_I} {ρ : am_R} {g : am_J} {τ : am_T} {Q : am_Q} {x0 : Value} {v : Int32} : AW d 92 6 [x0] (.int v :: st) σ ρ g τ Q = if v = 0 then AW d 92 11 [x0] (st) σ ρ g τ Q else AW d 92 9 [x0] (st) σ ρ g τ Q := aw_br m92 d92_6 rfl rfl rfl
theorem d92_9 : decode cX10_factNamed 9 = .ok (.iconst 0, 1) := by decide +kernel
theorem s92_9 {d : Nat} {st : List Value} {σ : am_I} {ρ : am_R} {g : am_J} {τ : am_T} {Q : am_Q} {x0 : Value} : AW d 92 9 [x0] (st) σ ρ g τ Q = AW d 92 10 [x0] (.int 0 :: st) σ ρ g τ Q := aw_lc m92 d92_9 rfl rfl rfl
theorem d92_10 : decode cX10_factNamed 10 = .ok (.ireturn, 1) := by decide +kernel
theorem s92_10 {d : Nat} {σ : am_I} {ρ : am_R} {g : am_J} {τ : am_T} {Q : am_Q} {x0 : Value} {v : Int32} : AW d 92 10 [x0] ([.int v]) σ ρ g τ Q = Q (some (.int v)) σ ρ g τ := aw_ri m92 d92_10 rfl
theorem d92_11 : decode cX10_factNamed 11 = .ok (.aload_n 0, 1) := by decide +kernel
theorem s92_11 {d : Nat} {st : List Value} {σ : am_I} {ρ : am_R} {g : am_J} {τ : am_T} {Q : am_Q} {v : Nat} : AW d 92 11 [.ref v] (st) σ ρ g τ Q = AW d 92 12 [.ref v] (.ref v :: st) σ ρ g τ Q := aw_lc m92 d92_11 rfl rfl rfl
theorem d92_12 : decode cX10_factNamed 12 = .ok (.ldc 136, 2) := by decide +kernel
theorem s92_12 {d : Nat} {st : List Value} {σ : am_I} {ρ : am_R} {g : am_J} {τ : am_T} {Q : am_Q} {x0 : Value} : AW d 92 12 [x0] (st) σ ρ g τ Q = AW d 92 14 [x0] (.ref (am_BG + 15) :: st) σ ρ g τ Q := aw_lds m92 d92_12 rfl rfl
theorem d92_14 : decode cX10_factNamed 14 = .ok (.invokevirtual 93, 3) := by decide +kernel
theorem s92_14 {d : Nat} {st : List Value} {σ : am_I} {ρ : am_R} {g : am_J} {τ : am_T} {Q : am_Q} {x0 : Value} {p0 : Nat} {p1 : Nat} (ht : τ.1 p0 = 10) (hs : st.length ≤ 4) : AW (d + 1) 92 14 [x0] (.ref p1 :: .ref p0 :: st) σ ρ g τ Q = AW d 83 0 [.ref p0, .ref p1, am_jk] [] σ ρ g τ (fun r9 σ ρ g τ => AW (d + 1) 92 17 [x0] (r9.toList ++ st) σ ρ g τ Q) := aw_cv m92 d92_14 rfl m83 rfl rfl (by decide) en83 ok83 rfl ht hs
theorem d92_17 : decode cX10_factNamed 17 = .ok (.ifCond .eq 5, 3) := by decide +kernel
theorem s92_17 {d : Nat} {st : List Value} {σ : am_I} {ρ : am_R} {g : am_J} {τ : am_T} {Q : am_Q} {x0 : Value} {v : Int32} : AW d 92 17 [x0] (.int v :: st) σ ρ g τ Q = if v = 0 then AW d 92 22 [x0] (st) σ ρ g τ Q else AW d 92 20 [x0] (st) σ ρ g τ Q := aw_br m92 d92_17 rfl rfl rfl
theorem d92_20 : decode cX10_factNamed 20 = .ok (.iconst 1, 1) := by decide +kernel
theorem s92_20 {d : Nat} {st : List Value} {σ : am_I} {ρ : am_R} {g : am_J} {τ : am_T} {Q : am_Q} {x0 : Value} : AW d 92 20 [x0] (st) σ ρ g τ Q = AW d 92 21 [x0] (.int 1 :: st) σ ρ g τ Q := aw_lc m92 d92_20 rfl rfl rfl
theorem d92_21 : decode cX10_factNamed 21 = .ok (.ireturn, 1) := by decide +kernel
theorem s92_21 {d : Nat} {σ : am_I} {ρ : am_R} {g : am_J} {τ : am_T} {Q : am_Q} {x0 : Value} {v : Int32} : AW d 92 21 [x0] ([.int v]) σ ρ g τ Q = Q (some (.int v)) σ ρ g τ := aw_ri m92 d92_21 rfl
theorem d92_22 : decode cX10_factNamed 22 = .ok (.aload_n 0, 1) := by decide +kernel
theorem s92_22 {d : Nat} {st : List Value} {σ : am_I} {ρ : am_R} {g : am_J} {τ : am_T} {Q : am_Q} {v : Nat} : AW d 92 22 [.ref v] (st) σ ρ g τ Q = AW d 92 23 [.ref v] (.ref v :: st) σ ρ g τ Q := aw_lc m92 d92_22 rfl rfl rfl
theorem d92_23 : decode cX10_factNamed 23 = .ok (.ldc 138, 2) := by decide +kernel
theorem s92_23 {d : Nat} {st : List Value} {σ : am_I} {ρ : am_R} {g : am_J} {τ : am_T} {Q : am_Q} {x0 : Value} : AW d 92 23 [x0] (st) σ ρ g τ Q = AW d 92 25 [x0] (.ref (am_BG + 16) :: st) σ ρ g τ Q := aw_lds m92 d92_23 rfl rfl
theorem d92_25 : decode cX10_factNamed 25 = .ok (.invokevirtual 93, 3) := by decide +kernel
theorem s92_25 {d : Nat} {st : List Value} {σ : am_I} {ρ : am_R} {g : am_J} {τ : am_T} {Q : am_Q} {x0 : Value} {p0 : Nat} {p1 : Nat} (ht : τ.1 p0 = 10) (hs : st.length ≤ 4) : AW (d + 1) 92 25 [x0] (.ref p1 :: .ref p0 :: st) σ ρ g τ Q = AW d 83 0 [.ref p0, .ref p1, am_jk] [] σ ρ g τ (fun r9 σ ρ g τ => AW (d + 1) 92 28 [x0] (r9.toList ++ st) σ ρ g τ Q) := aw_cv m92 d92_25 rfl m83 rfl rfl (by decide) en83 ok83 rfl ht hs
theorem d92_28 : decode cX10_factNamed 28 = .ok (.ifCond .eq 5, 3) := by decide +kernel
theorem s92_28 {d : Nat} {st : List Value} {σ : am_I} {ρ : am_R} {g : am_J} {τ : am_T} {Q : am_Q} {x0 : Value} {v : Int32} : AW d 92 28 [x0] (.int v :: st) σ ρ g τ Q = if v = 0 then AW d 92 33 [x0] (st) σ ρ g τ Q else AW d 92 31 [x0] (st) σ ρ g τ Q := aw_br m92 d92_28 rfl rfl rfl
theorem d92_31 : decode cX10_factNamed 31 = .ok (.iconst 2, 1) := by decide +kernel
theorem s92_31 {d : Nat} {st : List Value} {σ : am_I} {ρ : am_R} {g : am_J} {τ : am_T} {Q : am_Q} {x0 : Value} : AW d 92 31 [x0] (st) σ ρ g τ Q = AW d 92 32 [x0] (.int 2 :: st) σ ρ g τ Q := aw_lc m92 d92_31 rfl rfl rfl
theorem d92_32 : decode cX10_factNamed 32 = .ok (.ireturn, 1) := by decide +kernel
theorem s92_32 {d : Nat} {σ : am_I} {ρ : am_R} {g : am_J} {τ : am_T} {Q : am_Q} {x0 : Value} {v : Int32} : AW d 92 32 [x0] ([.int v]) σ ρ g τ Q = Q (some (.int v)) σ ρ g τ := aw_ri m92 d92_32 rfl
theorem d92_33 : decode cX10_factNamed 33 = .ok (.aload_n 0, 1) := by decide +kernel
theorem s92_33 {d : Nat} {st : List Value} {σ : am_I} {ρ : am_R} {g : am_J} {τ : am_T} {Q : am_Q} {v : Nat} : AW d 92 33 [.ref v] (st) σ ρ g τ Q = AW d 92 34 [.ref v] (.ref v :: st) σ ρ g τ Q := aw_lc m92 d92_33 rfl rfl rfl
theorem d92_34 : decode cX10_factNamed 34 = .ok (.ldc 140, 2) := by decide +kernel
theorem s92_34 {d : Nat} {st : List Value} {σ : am_I} {ρ : am_R} {g : am_J} {τ : am_T} {Q : am_Q} {x0 : Value} : AW d 92 34 [x0] (st) σ ρ g τ Q = AW d 92 36 [x0] (.ref (am_BG + 17) :: st) σ ρ g τ Q := aw_lds m92 d92_34 rfl rfl
theorem d92_36 : decode cX10_factNamed 36 = .ok (.invokevirtual 93, 3) := by decide +kernel
theorem s92_36 {d : Nat} {st : List Value} {σ : am_I} {ρ : am_R} {g : am_J} {τ : am_T} {Q : am_Q} {x0 : Value} {p0 : Nat} {p1 : Nat} (ht : τ.1 p0 = 10) (hs : st.length ≤ 4) : AW (d + 1) 92 36 [x0] (.ref p1 :: .ref p0 :: st) σ ρ g τ Q = AW d 83 0 [.ref p0, .ref p1, am_jk] [] σ ρ g τ (fun r9 σ ρ g τ => AW (d + 1) 92 39 [x0] (r9.toList ++ st) σ ρ g τ Q) := aw_cv m92 d92_36 rfl m83 rfl rfl (by decide) en83 ok83 rfl ht hs
theorem d92_39 : decode cX10_factNamed 39 = .ok (.ifCond .eq 5, 3) := by decide +kernel
theorem s92_39 {d : Nat} {st : List Value} {σ : am_I} {ρ : am_R} {g : am_J} {τ : am_T} {Q : am_Q} {x0 : Value} {v : Int32} : AW d 92 39 [x0] (.int v :: st) σ ρ g τ Q = if v = 0 then AW d 92 44 [x0] (st) σ ρ g τ Q else AW d 92 42 [x0] (st) σ ρ g τ Q := aw_br m92 d92_39 rfl rfl rfl
theorem d92_42 : decode cX10_factNamed 42 = .ok (.iconst 3, 1) := by decide +kernel
theorem s92_42 {d : Nat} {st : List Value} {σ : am_I} {ρ : am_R} {g : am_J} {τ : am_T} {Q : am_Q} {x0 : Value} : AW d 92 42 [x0] (st) σ ρ g τ Q = AW d 92 43 [x0] (.int 3 :: st) σ ρ g τ Q := aw_lc m92 d92_42 rfl rfl rfl
theorem d92_43 : decode cX10_factNamed 43 = .ok (.ireturn, 1) := by decide +kernel
theorem s92_43 {d : Nat} {σ : am_I} {ρ : am_R} {g : am_J} {τ : am_T} {Q : am_Q} {x0 : Value} {v : Int32} : AW d 92 43 [x0] ([.int v]) σ ρ g τ Q = Q (some (.int v)) σ ρ g τ := aw_ri m92 d92_43 rfl
theorem d92_44 : decode cX10_factNamed 44 = .ok (.aload_n 0, 1) := by decide +kernel
theorem s92_44 {d : Nat} {st : List Value} {σ : am_I} {ρ : am_R} {g : am_J} {τ : am_T} {Q : am_Q} {v : Nat} : AW d 92 44 [.ref v] (st) σ ρ g τ Q = AW d 92 45 [.ref v] (.ref v :: st) σ ρ g τ Q := aw_lc m92 d92_44 rfl rfl rfl
theorem d92_45 : decode cX10_factNamed 45 = .ok (.ldc 142, 2) := by decide +kernel
theorem s92_45 {d : Nat} {st : List Value} {σ : am_I} {ρ : am_R} {g : am_J} {τ : am_T} {Q : am_Q} {x0 : Value} : AW d 92 45 [x0] (st) σ ρ g τ Q = AW d 92 47 [x0] (.ref (am_BG + 18) :: st) σ ρ g τ Q := aw_lds m92 d92_45 rfl rfl
theorem d92_47 : decode cX10_factNamed 47 = .ok (.invokevirtual 93, 3) := by decide +kernel
theorem s92_47 {d : Nat} {st : List Value} {σ : am_I} {ρ : am_R} {g : am_J} {τ : am_T} {Q : am_Q} {x0 : Value} {p0 : Nat} {p1 : Nat} (ht : τ.1 p0 = 10) (hs : st.length ≤ 4) : AW (d + 1) 92 47 [x0] (.ref p1 :: .ref p0 :: st) σ ρ g τ Q = AW d 83 0 [.ref p0, .ref p1, am_jk] [] σ ρ g τ (fun r9 σ ρ g τ => AW (d + 1) 92 50 [x0] (r9.toList ++ st) σ ρ g τ Q) := aw_cv m92 d92_47 rfl m83 rfl rfl (by decide) en83 ok83 rfl ht hs
theorem d92_50 : decode cX10_factNamed 50 = .ok (.ifCond .eq 5, 3) := by decide +kernel
theorem s92_50 {d : Nat} {st : List Value} {σ : am_I} {ρ : am_R} {g : am_J} {τ : am_T} {Q : am_Q} {x0 : Value} {v : Int32} : AW d 92 50 [x0] (.int v :: st) σ ρ g τ Q = if v = 0 then AW d 92 55 [x0] (st) σ ρ g τ Q else AW d 92 53 [x0] (st) σ ρ g τ Q := aw_br m92 d92_50 rfl rfl rfl
theorem d92_53 : decode cX10_factNamed 53 = .ok (.iconst 4, 1) := by decide +kernel
theorem s92_53 {d : Nat} {st : List Value} {σ : am_I} {ρ : am_R} {g : am_J} {τ : am_T} {Q : am_Q} {x0 : Value} : AW d 92 53 [x0] (st) σ ρ g τ Q = AW d 92 54 [x0] (.int 4 :: st) σ ρ g τ Q := aw_lc m92 d92_53 rfl rfl rfl
theorem d92_54 : decode cX10_factNamed 54 = .ok (.ireturn, 1) := by decide +kernel
theorem s92_54 {d : Nat} {σ : am_I} {ρ : am_R} {g : am_J} {τ : am_T} {Q : am_Q} {x0 : Value} {v : Int32} : AW d 92 54 [x0] ([.int v]) σ ρ g τ Q = Q (some (.int v)) σ ρ g τ := aw_ri m92 d92_54 rfl
theorem d92_55 : decode cX10_factNamed 55 = .ok (.aload_n 0, 1) := by decide +kernel
theorem s92_55 {d : Nat} {st : List Value} {σ : am_I} {ρ : am_R} {g : am_J} {τ : am_T} {Q : am_Q} {v : Nat} : AW d 92 55 [.ref v] (st) σ ρ g τ Q = AW d 92 56 [.ref v] (.ref v :: st) σ ρ g τ Q := aw_lc m92 d92_55 rfl rfl rfl
theorem d92_56 : decode cX10_factNamed 56 = .ok (.ldc 144, 2) := by decide +kernel
theorem s92_56 {d : Nat} {st : List Value} {σ : am_I} {ρ : am_R} {g : am_J} {τ : am_T} {Q : am_Q} {x0 : Value} : AW d 92 56 [x0] (st) σ ρ g τ Q = AW d 92 58 [x0] (.ref (am_BG + 19) :: st) σ ρ g τ Q := aw_lds m92 d92_56 rfl rfl
theorem d92_58 : decode cX10_factNamed 58 = .ok (.invokevirtual 93, 3) := by decide +kernel
theorem s92_58 {d : Nat} {st : List Value} {σ : am_I} {ρ : am_R} {g : am_J} {τ : am_T} {Q : am_Q} {x0 : Value} {p0 : Nat} {p1 : Nat} (ht : τ.1 p0 = 10) (hs : st.length ≤ 4) : AW (d + 1) 92 58 [x0] (.ref p1 :: .ref p0 :: st) σ ρ g τ Q = AW d 83 0 [.ref p0, .ref p1, am_jk] [] σ ρ g τ (fun r9 σ ρ g τ => AW (d + 1) 92 61 [x0] (r9.toList ++ st) σ ρ g τ Q) := aw_cv m92 d92_58 rfl m83 rfl rfl (by decide) en83 ok83 rfl ht hs
theorem d92_61 : decode cX10_factNamed 61 = .ok (.ifCond .eq 7, 3) := by decide +kernel
theorem s92_61 {d : Nat} {st : List Value} {σ : am_I} {ρ : am_R} {g : am_J} {τ : am_T} {Q : am_Q} {x0 : Value} {v : Int32} : AW d 92 61 [x0] (.int v :: st) σ ρ g τ Q = if v = 0 then AW d 92 68 [x0] (st) σ ρ g τ Q else AW d 92 64 [x0] (st) σ ρ g τ Q := aw_br m92 d92_61 rfl rfl rfl
theorem d92_64 : decode cX10_factNamed 64 = .ok (.iconst 5, 1) := by decide +kernel
theorem s92_64 {d : Nat} {st : List Value} {σ : am_I} {ρ : am_R} {g : am_J} {τ : am_T} {Q : am_Q} {x0 : Value} : AW d 92 64 [x0] (st) σ ρ g τ Q = AW d 92 65 [x0] (.int 5 :: st) σ ρ g τ Q := aw_lc m92 d92_64 rfl rfl rfl
theorem d92_65 : decode cX10_factNamed 65 = .ok (.goto 4, 3) := by decide +kernel
theorem s92_65 {d : Nat} {st : List Value} {σ : am_I} {ρ : am_R} {g : am_J} {τ : am_T} {Q : am_Q} {x0 : Value} : AW d 92 65 [x0] (st) σ ρ g τ Q = AW d 92 69 [x0] (st) σ ρ g τ Q := aw_lc m92 d92_65 rfl rfl rfl
theorem d92_68 : decode cX10_factNamed 68 = .ok (.iconst (-1), 1) := by decide +kernel
theorem s92_68 {d : Nat} {st : List Value} {σ : am_I} {ρ : am_R} {g : am_J} {τ : am_T} {Q : am_Q} {x0 : Value} : AW d 92 68 [x0] (st) σ ρ g τ Q = AW d 92 69 [x0] (.int (-1) :: st) σ ρ g τ Q := aw_lc m92 d92_68 rfl rfl rfl
theorem d92_69 : decode cX10_factNamed 69 = .ok (.ireturn, 1) := by decide +kernel
theorem s92_69 {d : Nat} {σ : am_I} {ρ : am_R} {g : am_J} {τ : am_T} {Q : am_Q} {x0 : Value} {v : Int32} : AW d 92 69 [x0] ([.int v]) σ ρ g τ Q = Q (some (.int v)) σ ρ g τ := aw_ri m92 d92_69 rfl
theorem d93_0 : decode cX10_addStep 0 = .ok (.aload_n 0, 1) := by decide +kernel
theorem s93_0 {d : Nat} {st : List Value} {σ : am_I} {ρ : am_R} {g : am_J} {τ : am_T} {Q : am_Q} {x1 : Value} {v : Nat} : AW d 93 0 [.ref v, x1] (st) σ ρ g τ Q = AW d 93 1 [.ref v, x1] (.ref v :: st) σ ρ g τ Q := aw_lc m93 d93_0 rfl rfl rfl
theorem d93_1 : decode cX10_addStep 1 = .ok (.getfield 35, 3) := by decide +kernel
theorem s93_1 {d : Nat} {st : List Value} {σ : am_I} {ρ : am_R} {g : am_J} {τ : am_T} {Q : am_Q} {x0 x1 : Value} {a : Nat} (ht : τ.1 a = 10) : AW d 93 1 [x0, x1] (.ref a :: st) σ ρ g τ Q = AW d 93 4 [x0, x1] (.int (σ a 7) :: st) σ ρ g τ Q := aw_gi m93 d93_1 rfl rfl rfl ht
theorem d93_4 : decode cX10_addStep 4 = .ok (.sipush 240, 3) := by decide +kernel
theorem s93_4 {d : Nat} {st : List Value} {σ : am_I} {ρ : am_R} {g : am_J} {τ : am_T} {Q : am_Q} {x0 x1 : Value} : AW d 93 4 [x0, x1] (st) σ ρ g τ Q = AW d 93 7 [x0, x1] (.int 240 :: st) σ ρ g τ Q := aw_lc m93 d93_4 rfl rfl rfl
theorem d93_7 : decode cX10_addStep 7 = .ok (.if_icmp .ge 23, 3) := by decide +kernel
theorem s93_7 {d : Nat} {st : List Value} {σ : am_I} {ρ : am_R} {g : am_J} {τ : am_T} {Q : am_Q} {x0 x1 : Value} {v w : Int32} : AW d 93 7 [x0, x1] (.int w :: .int v :: st) σ ρ g τ Q = if w ≤ v then AW d 93 30 [x0, x1] (st) σ ρ g τ Q else AW d 93 10 [x0, x1] (st) σ ρ g τ Q := aw_br m93 d93_7 rfl rfl rfl
theorem d93_10 : decode cX10_addStep 10 = .ok (.aload_n 0, 1) := by decide +kernel
theorem s93_10 {d : Nat} {st : List Value} {σ : am_I} {ρ : am_R} {g : am_J} {τ : am_T} {Q : am_Q} {x1 : Value} {v : Nat} : AW d 93 10 [.ref v, x1] (st) σ ρ g τ Q = AW d 93 11 [.ref v, x1] (.ref v :: st) σ ρ g τ Q := aw_lc m93 d93_10 rfl rfl rfl
theorem d93_11 : decode cX10_addStep 11 = .ok (.getfield 31, 3) := by decide +kernel
theorem s93_11 {d : Nat} {st : List Value} {σ : am_I} {ρ : am_R} {g : am_J} {τ : am_T} {Q : am_Q} {x0 x1 : Value} {a : Nat} (ht : τ.1 a = 10) : AW d 93 11 [x0, x1] (.ref a :: st) σ ρ g τ Q = AW d 93 14 [x0, x1] (va_rf (ρ a 6) :: st) σ ρ g τ Q := aw_gr m93 d93_11 rfl rfl rfl ht
theorem d93_14 : decode cX10_addStep 14 = .ok (.aload_n 0, 1) := by decide +kernel
theorem s93_14 {d : Nat} {st : List Value} {σ : am_I} {ρ : am_R} {g : am_J} {τ : am_T} {Q : am_Q} {x1 : Value} {v : Nat} : AW d 93 14 [.ref v, x1] (st) σ ρ g τ Q = AW d 93 15 [.ref v, x1] (.ref v :: st) σ ρ g τ Q := aw_lc m93 d93_14 rfl rfl rfl
theorem d93_15 : decode cX10_addStep 15 = .ok (.getfield 35, 3) := by decide +kernel
theorem s93_15 {d : Nat} {st : List Value} {σ : am_I} {ρ : am_R} {g : am_J} {τ : am_T} {Q : am_Q} {x0 x1 : Value} {a : Nat} (ht : τ.1 a = 10) : AW d 93 15 [x0, x1] (.ref a :: st) σ ρ g τ Q = AW d 93 18 [x0, x1] (.int (σ a 7) :: st) σ ρ g τ Q := aw_gi m93 d93_15 rfl rfl rfl ht
theorem d93_18 : decode cX10_addStep 18 = .ok (.iload_n 1, 1) := by decide +kernel
theorem s93_18 {d : Nat} {st : List Value} {σ : am_I} {ρ : am_R} {g : am_J} {τ : am_T} {Q : am_Q} {x0 : Value} {v : Int32} : AW d 93 18 [x0, .int v] (st) σ ρ g τ Q = AW d 93 19 [x0, .int v] (.int v :: st) σ ρ g τ Q := aw_lc m93 d93_18 rfl rfl rfl
theorem d93_19 : decode cX10_addStep 19 = .ok (.iastore, 1) := by decide +kernel
theorem s93_19 {d : Nat} {st : List Value} {σ : am_I} {ρ : am_R} {g : am_J} {τ : am_T} {Q : am_Q} {x0 x1 : Value} {a : Nat} {j v : Int32} (ht : τ.1 a = 15) (ha : a < am_BG) (hj : am_inb j (τ.2.1 a) = true) : AW d 93 19 [x0, x1] (.int v :: .int j :: .ref a :: st) σ ρ g τ Q = AW d 93 20 [x0, x1] (st) (am_u σ a j.toNatClampNeg v) ρ g τ Q := aw_ias m93 d93_19 rfl ht ha hj
theorem d93_20 : decode cX10_addStep 20 = .ok (.aload_n 0, 1) := by decide +kernel
theorem s93_20 {d : Nat} {st : List Value} {σ : am_I} {ρ : am_R} {g : am_J} {τ : am_T} {Q : am_Q} {x1 : Value} {v : Nat} : AW d 93 20 [.ref v, x1] (st) σ ρ g τ Q = AW d 93 21 [.ref v, x1] (.ref v :: st) σ ρ g τ Q := aw_lc m93 d93_20 rfl rfl rfl
theorem d93_21 : decode cX10_addStep 21 = .ok (.dup, 1) := by decide +kernel
theorem s93_21 {d : Nat} {st : List Value} {σ : am_I} {ρ : am_R} {g : am_J} {τ : am_T} {Q : am_Q} {x0 x1 : Value} {v : Int32} : AW d 93 21 [x0, x1] (.int v :: st) σ ρ g τ Q = AW d 93 22 [x0, x1] (.int v :: .int v :: st) σ ρ g τ Q := aw_lc m93 d93_21 rfl rfl rfl
theorem s93_21r {d : Nat} {st : List Value} {σ : am_I} {ρ : am_R} {g : am_J} {τ : am_T} {Q : am_Q} {x0 x1 : Value} {v : Nat} : AW d 93 21 [x0, x1] (.ref v :: st) σ ρ g τ Q = AW d 93 22 [x0, x1] (.ref v :: .ref v :: st) σ ρ g τ Q := aw_lc m93 d93_21 rfl rfl rfl
theorem d93_22 : decode cX10_addStep 22 = .ok (.getfield 35, 3) := by decide +kernel
theorem s93_22 {d : Nat} {st : List Value} {σ : am_I} {ρ : am_R} {g : am_J} {τ : am_T} {Q : am_Q} {x0 x1 : Value} {a : Nat} (ht : τ.1 a = 10) : AW d 93 22 [x0, x1] (.ref a :: st) σ ρ g τ Q = AW d 93 25 [x0, x1] (.int (σ a 7) :: st) σ ρ g τ Q := aw_gi m93 d93_22 rfl rfl rfl ht
theorem d93_25 : decode cX10_addStep 25 = .ok (.iconst 1, 1) := by decide +kernel
theorem s93_25 {d : Nat} {st : List Value} {σ : am_I} {ρ : am_R} {g : am_J} {τ : am_T} {Q : am_Q} {x0 x1 : Value} : AW d 93 25 [x0, x1] (st) σ ρ g τ Q = AW d 93 26 [x0, x1] (.int 1 :: st) σ ρ g τ Q := aw_lc m93 d93_25 rfl rfl rfl
theorem d93_26 : decode cX10_addStep 26 = .ok (.iadd, 1) := by decide +kernel
theorem s93_26 {d : Nat} {st : List Value} {σ : am_I} {ρ : am_R} {g : am_J} {τ : am_T} {Q : am_Q} {x0 x1 : Value} {v w : Int32} : AW d 93 26 [x0, x1] (.int w :: .int v :: st) σ ρ g τ Q = AW d 93 27 [x0, x1] (.int (v + w) :: st) σ ρ g τ Q := aw_lc m93 d93_26 rfl rfl rfl
theorem d93_27 : decode cX10_addStep 27 = .ok (.putfield 35, 3) := by decide +kernel
theorem s93_27 {d : Nat} {st : List Value} {σ : am_I} {ρ : am_R} {g : am_J} {τ : am_T} {Q : am_Q} {x0 x1 : Value} {a : Nat} {v : Int32} (ht : τ.1 a = 10) : AW d 93 27 [x0, x1] (.int v :: .ref a :: st) σ ρ g τ Q = AW d 93 30 [x0, x1] (st) (am_u σ a 7 v) ρ g τ Q := aw_pi m93 d93_27 rfl rfl (Or.inl rfl) rfl ht
theorem d93_30 : decode cX10_addStep 30 = .ok (.return_, 1) := by decide +kernel
theorem s93_30 {d : Nat} {σ : am_I} {ρ : am_R} {g : am_J} {τ : am_T} {Q : am_Q} {x0 x1 : Value} : AW d 93 30 [x0, x1] ([]) σ ρ g τ Q = Q none σ ρ g τ := aw_rv m93 d93_30 rfl
theorem d94_0 : decode cX10_readCond 0 = .ok (.aload_n 0, 1) := by decide +kernel
theorem s94_0 {d : Nat} {st : List Value} {σ : am_I} {ρ : am_R} {g : am_J} {τ : am_T} {Q : am_Q} {x1 x2 : Value} {v : Nat} : AW d 94 0 [.ref v, x1, x2] (st) σ ρ g τ Q = AW d 94 1 [.ref v, x1, x2] (.ref v :: st) σ ρ g τ Q := aw_lc m94 d94_0 rfl rfl rfl
theorem d94_1 : decode cX10_readCond 1 = .ok (.iload_n 1, 1) := by decide +kernel
theorem s94_1 {d : Nat} {st : List Value} {σ : am_I} {ρ : am_R} {g : am_J} {τ : am_T} {Q : am_Q} {x0 x2 : Value} {v : Int32} : AW d 94 1 [x0, .int v, x2] (st) σ ρ g τ Q = AW d 94 2 [x0, .int v, x2] (.int v :: st) σ ρ g τ Q := aw_lc m94 d94_1 rfl rfl rfl
theorem d94_2 : decode cX10_readCond 2 = .ok (.invokevirtual 146, 3) := by decide +kernel
theorem s94_2 {d : Nat} {st : List Value} {σ : am_I} {ρ : am_R} {g : am_J} {τ : am_T} {Q : am_Q} {x0 x1 x2 : Value} {p0 : Nat} {p1 : Int32} (ht : τ.1 p0 = 10) (hs : st.length ≤ 4) : AW (d + 1) 94 2 [x0, x1, x2] (.int p1 :: .ref p0 :: st) σ ρ g τ Q = AW d 95 0 [.ref p0, .int p1, am_jk] [] σ ρ g τ (fun r9 σ ρ g τ => AW (d + 1) 94 5 [x0, x1, x2] (r9.toList ++ st) σ ρ g τ Q) := aw_cv m94 d94_2 rfl m95 rfl rfl (by decide) en95 ok95 rfl ht hs
theorem d94_5 : decode cX10_readCond 5 = .ok (.ifCond .ne 5, 3) := by decide +kernel
theorem s94_5 {d : Nat} {st : List Value} {σ : am_I} {ρ : am_R} {g : am_J} {τ : am_T} {Q : am_Q} {x0 x1 x2 : Value} {v : Int32} : AW d 94 5 [x0, x1, x2] (.int v :: st) σ ρ g τ Q = if ¬ v = 0 then AW d 94 10 [x0, x1, x2] (st) σ ρ g τ Q else AW d 94 8 [x0, x1, x2] (st) σ ρ g τ Q := aw_br m94 d94_5 rfl rfl rfl
theorem d94_8 : decode cX10_readCond 8 = .ok (.iconst 0, 1) := by decide +kernel
theorem s94_8 {d : Nat} {st : List Value} {σ : am_I} {ρ : am_R} {g : am_J} {τ : am_T} {Q : am_Q} {x0 x1 x2 : Value} : AW d 94 8 [x0, x1, x2] (st) σ ρ g τ Q = AW d 94 9 [x0, x1, x2] (.int 0 :: st) σ ρ g τ Q := aw_lc m94 d94_8 rfl rfl rfl
theorem d94_9 : decode cX10_readCond 9 = .ok (.ireturn, 1) := by decide +kernel
theorem s94_9 {d : Nat} {σ : am_I} {ρ : am_R} {g : am_J} {τ : am_T} {Q : am_Q} {x0 x1 x2 : Value} {v : Int32} (hv : am_b01 v = true) : AW d 94 9 [x0, x1, x2] ([.int v]) σ ρ g τ Q = Q (some (.int v)) σ ρ g τ := aw_rz m94 d94_9 rfl hv
theorem d94_10 : decode cX10_readCond 10 = .ok (.iconst 0, 1) := by decide +kernel
theorem s94_10 {d : Nat} {st : List Value} {σ : am_I} {ρ : am_R} {g : am_J} {τ : am_T} {Q : am_Q} {x0 x1 x2 : Value} : AW d 94 10 [x0, x1, x2] (st) σ ρ g τ Q = AW d 94 11 [x0, x1, x2] (.int 0 :: st) σ ρ g τ Q := aw_lc m94 d94_10 rfl rfl rfl
theorem d94_11 : decode cX10_readCond 11 = .ok (.istore_n 2, 1) := by decide +kernel
theorem s94_11 {d : Nat} {st : List Value} {σ : am_I} {ρ : am_R} {g : am_J} {τ : am_T} {Q : am_Q} {x0 x2 : Value} {v : Int32} {u : Int32} : AW d 94 11 [x0, .int u, x2] (.int v :: st) σ ρ g τ Q = AW d 94 12 [x0, .int u, .int v] (st) σ ρ g τ Q := aw_lc m94 d94_11 rfl rfl rfl
theorem d94_12 : decode cX10_readCond 12 = .ok (.iload_n 2, 1) := by decide +kernel
theorem s94_12 {d : Nat} {st : List Value} {σ : am_I} {ρ : am_R} {g : am_J} {τ : am_T} {Q : am_Q} {x0 x1 : Value} {v : Int32} : AW d 94 12 [x0, x1, .int v] (st) σ ρ g τ Q = AW d 94 13 [x0, x1, .int v] (.int v :: st) σ ρ g τ Q := aw_lc m94 d94_12 rfl rfl rfl
theorem d94_13 : decode cX10_readCond 13 = .ok (.sipush 240, 3) := by decide +kernel
theorem s94_13 {d : Nat} {st : List Value} {σ : am_I} {ρ : am_R} {g : am_J} {τ : am_T} {Q : am_Q} {x0 x1 x2 : Value} : AW d 94 13 [x0, x1, x2] (st) σ ρ g τ Q = AW d 94 16 [x0, x1, x2] (.int 240 :: st) σ ρ g τ Q := aw_lc m94 d94_13 rfl rfl rfl
theorem d94_16 : decode cX10_readCond 16 = .ok (.if_icmp .ge 37, 3) := by decide +kernel
theorem s94_16 {d : Nat} {st : List Value} {σ : am_I} {ρ : am_R} {g : am_J} {τ : am_T} {Q : am_Q} {x0 x1 x2 : Value} {v w : Int32} : AW d 94 16 [x0, x1, x2] (.int w :: .int v :: st) σ ρ g τ Q = if w ≤ v then AW d 94 53 [x0, x1, x2] (st) σ ρ g τ Q else AW d 94 19 [x0, x1, x2] (st) σ ρ g τ Q := aw_br m94 d94_16 rfl rfl rfl
theorem d94_19 : decode cX10_readCond 19 = .ok (.aload_n 0, 1) := by decide +kernel
theorem s94_19 {d : Nat} {st : List Value} {σ : am_I} {ρ : am_R} {g : am_J} {τ : am_T} {Q : am_Q} {x1 x2 : Value} {v : Nat} : AW d 94 19 [.ref v, x1, x2] (st) σ ρ g τ Q = AW d 94 20 [.ref v, x1, x2] (.ref v :: st) σ ρ g τ Q := aw_lc m94 d94_19 rfl rfl rfl
theorem d94_20 : decode cX10_readCond 20 = .ok (.ldc 149, 2) := by decide +kernel
theorem s94_20 {d : Nat} {st : List Value} {σ : am_I} {ρ : am_R} {g : am_J} {τ : am_T} {Q : am_Q} {x0 x1 x2 : Value} : AW d 94 20 [x0, x1, x2] (st) σ ρ g τ Q = AW d 94 22 [x0, x1, x2] (.ref (am_BG + 21) :: st) σ ρ g τ Q := aw_lds m94 d94_20 rfl rfl
theorem d94_22 : decode cX10_readCond 22 = .ok (.invokevirtual 93, 3) := by decide +kernel
theorem s94_22 {d : Nat} {st : List Value} {σ : am_I} {ρ : am_R} {g : am_J} {τ : am_T} {Q : am_Q} {x0 x1 x2 : Value} {p0 : Nat} {p1 : Nat} (ht : τ.1 p0 = 10) (hs : st.length ≤ 4) : AW (d + 1) 94 22 [x0, x1, x2] (.ref p1 :: .ref p0 :: st) σ ρ g τ Q = AW d 83 0 [.ref p0, .ref p1, am_jk] [] σ ρ g τ (fun r9 σ ρ g τ => AW (d + 1) 94 25 [x0, x1, x2] (r9.toList ++ st) σ ρ g τ Q) := aw_cv m94 d94_22 rfl m83 rfl rfl (by decide) en83 ok83 rfl ht hs
theorem d94_25 : decode cX10_readCond 25 = .ok (.ifCond .eq 28, 3) := by decide +kernel
theorem s94_25 {d : Nat} {st : List Value} {σ : am_I} {ρ : am_R} {g : am_J} {τ : am_T} {Q : am_Q} {x0 x1 x2 : Value} {v : Int32} : AW d 94 25 [x0, x1, x2] (.int v :: st) σ ρ g τ Q = if v = 0 then AW d 94 53 [x0, x1, x2] (st) σ ρ g τ Q else AW d 94 28 [x0, x1, x2] (st) σ ρ g τ Q := aw_br m94 d94_25 rfl rfl rfl
theorem d94_28 : decode cX10_readCond 28 = .ok (.aload_n 0, 1) := by decide +kernel
theorem s94_28 {d : Nat} {st : List Value} {σ : am_I} {ρ : am_R} {g : am_J} {τ : am_T} {Q : am_Q} {x1 x2 : Value} {v : Nat} : AW d 94 28 [.ref v, x1, x2] (st) σ ρ g τ Q = AW d 94 29 [.ref v, x1, x2] (.ref v :: st) σ ρ g τ Q := aw_lc m94 d94_28 rfl rfl rfl
theorem d94_29 : decode cX10_readCond 29 = .ok (.invokevirtual 47, 3) := by decide +kernel
theorem s94_29 {d : Nat} {st : List Value} {σ : am_I} {ρ : am_R} {g : am_J} {τ : am_T} {Q : am_Q} {x0 x1 x2 : Value} {p0 : Nat} (ht : τ.1 p0 = 10) (hs : st.length ≤ 4) : AW (d + 1) 94 29 [x0, x1, x2] (.ref p0 :: st) σ ρ g τ Q = AW d 80 0 [.ref p0, am_jk] [] σ ρ g τ (fun r9 σ ρ g τ => AW (d + 1) 94 32 [x0, x1, x2] (r9.toList ++ st) σ ρ g τ Q) := aw_cv m94 d94_29 rfl m80 rfl rfl (by decide) en80 ok80 rfl ht hs
theorem d94_32 : decode cX10_readCond 32 = .ok (.aload_n 0, 1) := by decide +kernel
theorem s94_32 {d : Nat} {st : List Value} {σ : am_I} {ρ : am_R} {g : am_J} {τ : am_T} {Q : am_Q} {x1 x2 : Value} {v : Nat} : AW d 94 32 [.ref v, x1, x2] (st) σ ρ g τ Q = AW d 94 33 [.ref v, x1, x2] (.ref v :: st) σ ρ g τ Q := aw_lc m94 d94_32 rfl rfl rfl
theorem d94_33 : decode cX10_readCond 33 = .ok (.iload_n 1, 1) := by decide +kernel
theorem s94_33 {d : Nat} {st : List Value} {σ : am_I} {ρ : am_R} {g : am_J} {τ : am_T} {Q : am_Q} {x0 x2 : Value} {v : Int32} : AW d 94 33 [x0, .int v, x2] (st) σ ρ g τ Q = AW d 94 34 [x0, .int v, x2] (.int v :: st) σ ρ g τ Q := aw_lc m94 d94_33 rfl rfl rfl
theorem d94_34 : decode cX10_readCond 34 = .ok (.invokevirtual 146, 3) := by decide +kernel
theorem s94_34 {d : Nat} {st : List Value} {σ : am_I} {ρ : am_R} {g : am_J} {τ : am_T} {Q : am_Q} {x0 x1 x2 : Value} {p0 : Nat} {p1 : Int32} (ht : τ.1 p0 = 10) (hs : st.length ≤ 4) : AW (d + 1) 94 34 [x0, x1, x2] (.int p1 :: .ref p0 :: st) σ ρ g τ Q = AW d 95 0 [.ref p0, .int p1, am_jk] [] σ ρ g τ (fun r9 σ ρ g τ => AW (d + 1) 94 37 [x0, x1, x2] (r9.toList ++ st) σ ρ g τ Q) := aw_cv m94 d94_34 rfl m95 rfl rfl (by decide) en95 ok95 rfl ht hs
theorem d94_37 : decode cX10_readCond 37 = .ok (.ifCond .ne 5, 3) := by decide +kernel
theorem s94_37 {d : Nat} {st : List Value} {σ : am_I} {ρ : am_R} {g : am_J} {τ : am_T} {Q : am_Q} {x0 x1 x2 : Value} {v : Int32} : AW d 94 37 [x0, x1, x2] (.int v :: st) σ ρ g τ Q = if ¬ v = 0 then AW d 94 42 [x0, x1, x2] (st) σ ρ g τ Q else AW d 94 40 [x0, x1, x2] (st) σ ρ g τ Q := aw_br m94 d94_37 rfl rfl rfl
theorem d94_40 : decode cX10_readCond 40 = .ok (.iconst 0, 1) := by decide +kernel
theorem s94_40 {d : Nat} {st : List Value} {σ : am_I} {ρ : am_R} {g : am_J} {τ : am_T} {Q : am_Q} {x0 x1 x2 : Value} : AW d 94 40 [x0, x1, x2] (st) σ ρ g τ Q = AW d 94 41 [x0, x1, x2] (.int 0 :: st) σ ρ g τ Q := aw_lc m94 d94_40 rfl rfl rfl
theorem d94_41 : decode cX10_readCond 41 = .ok (.ireturn, 1) := by decide +kernel
theorem s94_41 {d : Nat} {σ : am_I} {ρ : am_R} {g : am_J} {τ : am_T} {Q : am_Q} {x0 x1 x2 : Value} {v : Int32} (hv : am_b01 v = true) : AW d 94 41 [x0, x1, x2] ([.int v]) σ ρ g τ Q = Q (some (.int v)) σ ρ g τ := aw_rz m94 d94_41 rfl hv
theorem d94_42 : decode cX10_readCond 42 = .ok (.aload_n 0, 1) := by decide +kernel
theorem s94_42 {d : Nat} {st : List Value} {σ : am_I} {ρ : am_R} {g : am_J} {τ : am_T} {Q : am_Q} {x1 x2 : Value} {v : Nat} : AW d 94 42 [.ref v, x1, x2] (st) σ ρ g τ Q = AW d 94 43 [.ref v, x1, x2] (.ref v :: st) σ ρ g τ Q := aw_lc m94 d94_42 rfl rfl rfl
theorem d94_43 : decode cX10_readCond 43 = .ok (.iconst 4, 1) := by decide +kernel
theorem s94_43 {d : Nat} {st : List Value} {σ : am_I} {ρ : am_R} {g : am_J} {τ : am_T} {Q : am_Q} {x0 x1 x2 : Value} : AW d 94 43 [x0, x1, x2] (st) σ ρ g τ Q = AW d 94 44 [x0, x1, x2] (.int 4 :: st) σ ρ g τ Q := aw_lc m94 d94_43 rfl rfl rfl
theorem d94_44 : decode cX10_readCond 44 = .ok (.invokevirtual 151, 3) := by decide +kernel
theorem s94_44 {d : Nat} {st : List Value} {σ : am_I} {ρ : am_R} {g : am_J} {τ : am_T} {Q : am_Q} {x0 x1 x2 : Value} {p0 : Nat} {p1 : Int32} (ht : τ.1 p0 = 10) (hs : st.length ≤ 4) : AW (d + 1) 94 44 [x0, x1, x2] (.int p1 :: .ref p0 :: st) σ ρ g τ Q = AW d 93 0 [.ref p0, .int p1] [] σ ρ g τ (fun r9 σ ρ g τ => AW (d + 1) 94 47 [x0, x1, x2] (r9.toList ++ st) σ ρ g τ Q) := aw_cv m94 d94_44 rfl m93 rfl rfl (by decide) en93 ok93 rfl ht hs
theorem d94_47 : decode cX10_readCond 47 = .ok (.iinc 2 1, 3) := by decide +kernel
theorem s94_47 {d : Nat} {st : List Value} {σ : am_I} {ρ : am_R} {g : am_J} {τ : am_T} {Q : am_Q} {x0 : Value} {v : Int32} {u : Int32} : AW d 94 47 [x0, .int u, .int v] (st) σ ρ g τ Q = AW d 94 50 [x0, .int u, .int (v + 1)] (st) σ ρ g τ Q := aw_lc m94 d94_47 rfl rfl rfl
theorem d94_50 : decode cX10_readCond 50 = .ok (.goto (-38), 3) := by decide +kernel
theorem s94_50 {d : Nat} {st : List Value} {σ : am_I} {ρ : am_R} {g : am_J} {τ : am_T} {Q : am_Q} {x0 x1 x2 : Value} : AW d 94 50 [x0, x1, x2] (st) σ ρ g τ Q = AW d 94 12 [x0, x1, x2] (st) σ ρ g τ Q := aw_lc m94 d94_50 rfl rfl rfl
theorem d94_53 : decode cX10_readCond 53 = .ok (.iconst 1, 1) := by decide +kernel
theorem s94_53 {d : Nat} {st : List Value} {σ : am_I} {ρ : am_R} {g : am_J} {τ : am_T} {Q : am_Q} {x0 x1 x2 : Value} : AW d 94 53 [x0, x1, x2] (st) σ ρ g τ Q = AW d 94 54 [x0, x1, x2] (.int 1 :: st) σ ρ g τ Q := aw_lc m94 d94_53 rfl rfl rfl
theorem d94_54 : decode cX10_readCond 54 = .ok (.ireturn, 1) := by decide +kernel
theorem s94_54 {d : Nat} {σ : am_I} {ρ : am_R} {g : am_J} {τ : am_T} {Q : am_Q} {x0 x1 x2 : Value} {v : Int32} (hv : am_b01 v = true) : AW d 94 54 [x0, x1, x2] ([.int v]) σ ρ g τ Q = Q (some (.int v)) σ ρ g τ := aw_rz m94 d94_54 rfl hv
theorem d95_0 : decode cX10_readAll 0 = .ok (.aload_n 0, 1) := by decide +kernel
theorem s95_0 {d : Nat} {st : List Value} {σ : am_I} {ρ : am_R} {g : am_J} {τ : am_T} {Q : am_Q} {x1 x2 : Value} {v : Nat} : AW d 95 0 [.ref v, x1, x2] (st) σ ρ g τ Q = AW d 95 1 [.ref v, x1, x2] (.ref v :: st) σ ρ g τ Q := aw_lc m95 d95_0 rfl rfl rfl
theorem d95_1 : decode cX10_readAll 1 = .ok (.iload_n 1, 1) := by decide +kernel
theorem s95_1 {d : Nat} {st : List Value} {σ : am_I} {ρ : am_R} {g : am_J} {τ : am_T} {Q : am_Q} {x0 x2 : Value} {v : Int32} : AW d 95 1 [x0, .int v, x2] (st) σ ρ g τ Q = AW d 95 2 [x0, .int v, x2] (.int v :: st) σ ρ g τ Q := aw_lc m95 d95_1 rfl rfl rfl
theorem d95_2 : decode cX10_readAll 2 = .ok (.invokevirtual 155, 3) := by decide +kernel
theorem s95_2 {d : Nat} {st : List Value} {σ : am_I} {ρ : am_R} {g : am_J} {τ : am_T} {Q : am_Q} {x0 x1 x2 : Value} {p0 : Nat} {p1 : Int32} (ht : τ.1 p0 = 10) (hs : st.length ≤ 4) : AW (d + 1) 95 2 [x0, x1, x2] (.int p1 :: .ref p0 :: st) σ ρ g τ Q = AW d 96 0 [.ref p0, .int p1, am_jk, am_jk] [] σ ρ g τ (fun r9 σ ρ g τ => AW (d + 1) 95 5 [x0, x1, x2] (r9.toList ++ st) σ ρ g τ Q) := aw_cv m95 d95_2 rfl m96 rfl rfl (by decide) en96 ok96 rfl ht hs
theorem d95_5 : decode cX10_readAll 5 = .ok (.ifCond .ne 5, 3) := by decide +kernel
theorem s95_5 {d : Nat} {st : List Value} {σ : am_I} {ρ : am_R} {g : am_J} {τ : am_T} {Q : am_Q} {x0 x1 x2 : Value} {v : Int32} : AW d 95 5 [x0, x1, x2] (.int v :: st) σ ρ g τ Q = if ¬ v = 0 then AW d 95 10 [x0, x1, x2] (st) σ ρ g τ Q else AW d 95 8 [x0, x1, x2] (st) σ ρ g τ Q := aw_br m95 d95_5 rfl rfl rfl
theorem d95_8 : decode cX10_readAll 8 = .ok (.iconst 0, 1) := by decide +kernel
theorem s95_8 {d : Nat} {st : List Value} {σ : am_I} {ρ : am_R} {g : am_J} {τ : am_T} {Q : am_Q} {x0 x1 x2 : Value} : AW d 95 8 [x0, x1, x2] (st) σ ρ g τ Q = AW d 95 9 [x0, x1, x2] (.int 0 :: st) σ ρ g τ Q := aw_lc m95 d95_8 rfl rfl rfl
theorem d95_9 : decode cX10_readAll 9 = .ok (.ireturn, 1) := by decide +kernel
theorem s95_9 {d : Nat} {σ : am_I} {ρ : am_R} {g : am_J} {τ : am_T} {Q : am_Q} {x0 x1 x2 : Value} {v : Int32} (hv : am_b01 v = true) : AW d 95 9 [x0, x1, x2] ([.int v]) σ ρ g τ Q = Q (some (.int v)) σ ρ g τ := aw_rz m95 d95_9 rfl hv
theorem d95_10 : decode cX10_readAll 10 = .ok (.iconst 0, 1) := by decide +kernel
theorem s95_10 {d : Nat} {st : List Value} {σ : am_I} {ρ : am_R} {g : am_J} {τ : am_T} {Q : am_Q} {x0 x1 x2 : Value} : AW d 95 10 [x0, x1, x2] (st) σ ρ g τ Q = AW d 95 11 [x0, x1, x2] (.int 0 :: st) σ ρ g τ Q := aw_lc m95 d95_10 rfl rfl rfl
theorem d95_11 : decode cX10_readAll 11 = .ok (.istore_n 2, 1) := by decide +kernel
theorem s95_11 {d : Nat} {st : List Value} {σ : am_I} {ρ : am_R} {g : am_J} {τ : am_T} {Q : am_Q} {x0 x2 : Value} {v : Int32} {u : Int32} : AW d 95 11 [x0, .int u, x2] (.int v :: st) σ ρ g τ Q = AW d 95 12 [x0, .int u, .int v] (st) σ ρ g τ Q := aw_lc m95 d95_11 rfl rfl rfl
theorem d95_12 : decode cX10_readAll 12 = .ok (.iload_n 2, 1) := by decide +kernel
theorem s95_12 {d : Nat} {st : List Value} {σ : am_I} {ρ : am_R} {g : am_J} {τ : am_T} {Q : am_Q} {x0 x1 : Value} {v : Int32} : AW d 95 12 [x0, x1, .int v] (st) σ ρ g τ Q = AW d 95 13 [x0, x1, .int v] (.int v :: st) σ ρ g τ Q := aw_lc m95 d95_12 rfl rfl rfl
theorem d95_13 : decode cX10_readAll 13 = .ok (.sipush 240, 3) := by decide +kernel
theorem s95_13 {d : Nat} {st : List Value} {σ : am_I} {ρ : am_R} {g : am_J} {τ : am_T} {Q : am_Q} {x0 x1 x2 : Value} : AW d 95 13 [x0, x1, x2] (st) σ ρ g τ Q = AW d 95 16 [x0, x1, x2] (.int 240 :: st) σ ρ g τ Q := aw_lc m95 d95_13 rfl rfl rfl
theorem d95_16 : decode cX10_readAll 16 = .ok (.if_icmp .ge 37, 3) := by decide +kernel
theorem s95_16 {d : Nat} {st : List Value} {σ : am_I} {ρ : am_R} {g : am_J} {τ : am_T} {Q : am_Q} {x0 x1 x2 : Value} {v w : Int32} : AW d 95 16 [x0, x1, x2] (.int w :: .int v :: st) σ ρ g τ Q = if w ≤ v then AW d 95 53 [x0, x1, x2] (st) σ ρ g τ Q else AW d 95 19 [x0, x1, x2] (st) σ ρ g τ Q := aw_br m95 d95_16 rfl rfl rfl
theorem d95_19 : decode cX10_readAll 19 = .ok (.aload_n 0, 1) := by decide +kernel
theorem s95_19 {d : Nat} {st : List Value} {σ : am_I} {ρ : am_R} {g : am_J} {τ : am_T} {Q : am_Q} {x1 x2 : Value} {v : Nat} : AW d 95 19 [.ref v, x1, x2] (st) σ ρ g τ Q = AW d 95 20 [.ref v, x1, x2] (.ref v :: st) σ ρ g τ Q := aw_lc m95 d95_19 rfl rfl rfl
theorem d95_20 : decode cX10_readAll 20 = .ok (.ldc 158, 2) := by decide +kernel
theorem s95_20 {d : Nat} {st : List Value} {σ : am_I} {ρ : am_R} {g : am_J} {τ : am_T} {Q : am_Q} {x0 x1 x2 : Value} : AW d 95 20 [x0, x1, x2] (st) σ ρ g τ Q = AW d 95 22 [x0, x1, x2] (.ref (am_BG + 20) :: st) σ ρ g τ Q := aw_lds m95 d95_20 rfl rfl
theorem d95_22 : decode cX10_readAll 22 = .ok (.invokevirtual 93, 3) := by decide +kernel
theorem s95_22 {d : Nat} {st : List Value} {σ : am_I} {ρ : am_R} {g : am_J} {τ : am_T} {Q : am_Q} {x0 x1 x2 : Value} {p0 : Nat} {p1 : Nat} (ht : τ.1 p0 = 10) (hs : st.length ≤ 4) : AW (d + 1) 95 22 [x0, x1, x2] (.ref p1 :: .ref p0 :: st) σ ρ g τ Q = AW d 83 0 [.ref p0, .ref p1, am_jk] [] σ ρ g τ (fun r9 σ ρ g τ => AW (d + 1) 95 25 [x0, x1, x2] (r9.toList ++ st) σ ρ g τ Q) := aw_cv m95 d95_22 rfl m83 rfl rfl (by decide) en83 ok83 rfl ht hs
theorem d95_25 : decode cX10_readAll 25 = .ok (.ifCond .eq 28, 3) := by decide +kernel
theorem s95_25 {d : Nat} {st : List Value} {σ : am_I} {ρ : am_R} {g : am_J} {τ : am_T} {Q : am_Q} {x0 x1 x2 : Value} {v : Int32} : AW d 95 25 [x0, x1, x2] (.int v :: st) σ ρ g τ Q = if v = 0 then AW d 95 53 [x0, x1, x2] (st) σ ρ g τ Q else AW d 95 28 [x0, x1, x2] (st) σ ρ g τ Q := aw_br m95 d95_25 rfl rfl rfl
theorem d95_28 : decode cX10_readAll 28 = .ok (.aload_n 0, 1) := by decide +kernel
theorem s95_28 {d : Nat} {st : List Value} {σ : am_I} {ρ : am_R} {g : am_J} {τ : am_T} {Q : am_Q} {x1 x2 : Value} {v : Nat} : AW d 95 28 [.ref v, x1, x2] (st) σ ρ g τ Q = AW d 95 29 [.ref v, x1, x2] (.ref v :: st) σ ρ g τ Q := aw_lc m95 d95_28 rfl rfl rfl
theorem d95_29 : decode cX10_readAll 29 = .ok (.invokevirtual 47, 3) := by decide +kernel
theorem s95_29 {d : Nat} {st : List Value} {σ : am_I} {ρ : am_R} {g : am_J} {τ : am_T} {Q : am_Q} {x0 x1 x2 : Value} {p0 : Nat} (ht : τ.1 p0 = 10) (hs : st.length ≤ 4) : AW (d + 1) 95 29 [x0, x1, x2] (.ref p0 :: st) σ ρ g τ Q = AW d 80 0 [.ref p0, am_jk] [] σ ρ g τ (fun r9 σ ρ g τ => AW (d + 1) 95 32 [x0, x1, x2] (r9.toList ++ st) σ ρ g τ Q) := aw_cv m95 d95_29 rfl m80 rfl rfl (by decide) en80 ok80 rfl ht hs
theorem d95_32 : decode cX10_readAll 32 = .ok (.aload_n 0, 1) := by decide +kernel
theorem s95_32 {d : Nat} {st : List Value} {σ : am_I} {ρ : am_R} {g : am_J} {τ : am_T} {Q : am_Q} {x1 x2 : Value} {v : Nat} : AW d 95 32 [.ref v, x1, x2] (st) σ ρ g τ Q = AW d 95 33 [.ref v, x1, x2] (.ref v :: st) σ ρ g τ Q := aw_lc m95 d95_32 rfl rfl rfl
theorem d95_33 : decode cX10_readAll 33 = .ok (.iload_n 1, 1) := by decide +kernel
theorem s95_33 {d : Nat} {st : List Value} {σ : am_I} {ρ : am_R} {g : am_J} {τ : am_T} {Q : am_Q} {x0 x2 : Value} {v : Int32} : AW d 95 33 [x0, .int v, x2] (st) σ ρ g τ Q = AW d 95 34 [x0, .int v, x2] (.int v :: st) σ ρ g τ Q := aw_lc m95 d95_33 rfl rfl rfl
theorem d95_34 : decode cX10_readAll 34 = .ok (.invokevirtual 155, 3) := by decide +kernel
theorem s95_34 {d : Nat} {st : List Value} {σ : am_I} {ρ : am_R} {g : am_J} {τ : am_T} {Q : am_Q} {x0 x1 x2 : Value} {p0 : Nat} {p1 : Int32} (ht : τ.1 p0 = 10) (hs : st.length ≤ 4) : AW (d + 1) 95 34 [x0, x1, x2] (.int p1 :: .ref p0 :: st) σ ρ g τ Q = AW d 96 0 [.ref p0, .int p1, am_jk, am_jk] [] σ ρ g τ (fun r9 σ ρ g τ => AW (d + 1) 95 37 [x0, x1, x2] (r9.toList ++ st) σ ρ g τ Q) := aw_cv m95 d95_34 rfl m96 rfl rfl (by decide) en96 ok96 rfl ht hs
theorem d95_37 : decode cX10_readAll 37 = .ok (.ifCond .ne 5, 3) := by decide +kernel
theorem s95_37 {d : Nat} {st : List Value} {σ : am_I} {ρ : am_R} {g : am_J} {τ : am_T} {Q : am_Q} {x0 x1 x2 : Value} {v : Int32} : AW d 95 37 [x0, x1, x2] (.int v :: st) σ ρ g τ Q = if ¬ v = 0 then AW d 95 42 [x0, x1, x2] (st) σ ρ g τ Q else AW d 95 40 [x0, x1, x2] (st) σ ρ g τ Q := aw_br m95 d95_37 rfl rfl rfl
theorem d95_40 : decode cX10_readAll 40 = .ok (.iconst 0, 1) := by decide +kernel
theorem s95_40 {d : Nat} {st : List Value} {σ : am_I} {ρ : am_R} {g : am_J} {τ : am_T} {Q : am_Q} {x0 x1 x2 : Value} : AW d 95 40 [x0, x1, x2] (st) σ ρ g τ Q = AW d 95 41 [x0, x1, x2] (.int 0 :: st) σ ρ g τ Q := aw_lc m95 d95_40 rfl rfl rfl
theorem d95_41 : decode cX10_readAll 41 = .ok (.ireturn, 1) := by decide +kernel
theorem s95_41 {d : Nat} {σ : am_I} {ρ : am_R} {g : am_J} {τ : am_T} {Q : am_Q} {x0 x1 x2 : Value} {v : Int32} (hv : am_b01 v = true) : AW d 95 41 [x0, x1, x2] ([.int v]) σ ρ g τ Q = Q (some (.int v)) σ ρ g τ := aw_rz m95 d95_41 rfl hv
theorem d95_42 : decode cX10_readAll 42 = .ok (.aload_n 0, 1) := by decide +kernel
theorem s95_42 {d : Nat} {st : List Value} {σ : am_I} {ρ : am_R} {g : am_J} {τ : am_T} {Q : am_Q} {x1 x2 : Value} {v : Nat} : AW d 95 42 [.ref v, x1, x2] (st) σ ρ g τ Q = AW d 95 43 [.ref v, x1, x2] (.ref v :: st) σ ρ g τ Q := aw_lc m95 d95_42 rfl rfl rfl
theorem d95_43 : decode cX10_readAll 43 = .ok (.iconst 3, 1) := by decide +kernel
theorem s95_43 {d : Nat} {st : List Value} {σ : am_I} {ρ : am_R} {g : am_J} {τ : am_T} {Q : am_Q} {x0 x1 x2 : Value} : AW d 95 43 [x0, x1, x2] (st) σ ρ g τ Q = AW d 95 44 [x0, x1, x2] (.int 3 :: st) σ ρ g τ Q := aw_lc m95 d95_43 rfl rfl rfl
theorem d95_44 : decode cX10_readAll 44 = .ok (.invokevirtual 151, 3) := by decide +kernel
theorem s95_44 {d : Nat} {st : List Value} {σ : am_I} {ρ : am_R} {g : am_J} {τ : am_T} {Q : am_Q} {x0 x1 x2 : Value} {p0 : Nat} {p1 : Int32} (ht : τ.1 p0 = 10) (hs : st.length ≤ 4) : AW (d + 1) 95 44 [x0, x1, x2] (.int p1 :: .ref p0 :: st) σ ρ g τ Q = AW d 93 0 [.ref p0, .int p1] [] σ ρ g τ (fun r9 σ ρ g τ => AW (d + 1) 95 47 [x0, x1, x2] (r9.toList ++ st) σ ρ g τ Q) := aw_cv m95 d95_44 rfl m93 rfl rfl (by decide) en93 ok93 rfl ht hs
theorem d95_47 : decode cX10_readAll 47 = .ok (.iinc 2 1, 3) := by decide +kernel
theorem s95_47 {d : Nat} {st : List Value} {σ : am_I} {ρ : am_R} {g : am_J} {τ : am_T} {Q : am_Q} {x0 : Value} {v : Int32} {u : Int32} : AW d 95 47 [x0, .int u, .int v] (st) σ ρ g τ Q = AW d 95 50 [x0, .int u, .int (v + 1)] (st) σ ρ g τ Q := aw_lc m95 d95_47 rfl rfl rfl
theorem d95_50 : decode cX10_readAll 50 = .ok (.goto (-38), 3) := by decide +kernel
theorem s95_50 {d : Nat} {st : List Value} {σ : am_I} {ρ : am_R} {g : am_J} {τ : am_T} {Q : am_Q} {x0 x1 x2 : Value} : AW d 95 50 [x0, x1, x2] (st) σ ρ g τ Q = AW d 95 12 [x0, x1, x2] (st) σ ρ g τ Q := aw_lc m95 d95_50 rfl rfl rfl
theorem d95_53 : decode cX10_readAll 53 = .ok (.iconst 1, 1) := by decide +kernel
theorem s95_53 {d : Nat} {st : List Value} {σ : am_I} {ρ : am_R} {g : am_J} {τ : am_T} {Q : am_Q} {x0 x1 x2 : Value} : AW d 95 53 [x0, x1, x2] (st) σ ρ g τ Q = AW d 95 54 [x0, x1, x2] (.int 1 :: st) σ ρ g τ Q := aw_lc m95 d95_53 rfl rfl rfl
theorem d95_54 : decode cX10_readAll 54 = .ok (.ireturn, 1) := by decide +kernel
theorem s95_54 {d : Nat} {σ : am_I} {ρ : am_R} {g : am_J} {τ : am_T} {Q : am_Q} {x0 x1 x2 : Value} {v : Int32} (hv : am_b01 v = true) : AW d 95 54 [x0, x1, x2] ([.int v]) σ ρ g τ Q = Q (some (.int v)) σ ρ g τ := aw_rz m95 d95_54 rfl hv
theorem d96_0 : decode cX10_readOne 0 = .ok (.iconst 0, 1) := by decide +kernel
theorem s96_0 {d : Nat} {st : List Value} {σ : am_I} {ρ : am_R} {g : am_J} {τ : am_T} {Q : am_Q} {x0 x1 x2 x3 : Value} : AW d 96 0 [x0, x1, x2, x3] (st) σ ρ g τ Q = AW d 96 1 [x0, x1, x2, x3] (.int 0 :: st) σ ρ g τ Q := aw_lc m96 d96_0 rfl rfl rfl
theorem d96_1 : decode cX10_readOne 1 = .ok (.istore_n 2, 1) := by decide +kernel
theorem s96_1 {d : Nat} {st : List Value} {σ : am_I} {ρ : am_R} {g : am_J} {τ : am_T} {Q : am_Q} {x0 x2 x3 : Value} {v : Int32} {u : Int32} : AW d 96 1 [x0, .int u, x2, x3] (.int v :: st) σ ρ g τ Q = AW d 96 2 [x0, .int u, .int v, x3] (st) σ ρ g τ Q := aw_lc m96 d96_1 rfl rfl rfl
theorem d96_2 : decode cX10_readOne 2 = .ok (.iconst 0, 1) := by decide +kernel
theorem s96_2 {d : Nat} {st : List Value} {σ : am_I} {ρ : am_R} {g : am_J} {τ : am_T} {Q : am_Q} {x0 x1 x2 x3 : Value} : AW d 96 2 [x0, x1, x2, x3] (st) σ ρ g τ Q = AW d 96 3 [x0, x1, x2, x3] (.int 0 :: st) σ ρ g τ Q := aw_lc m96 d96_2 rfl rfl rfl
theorem d96_3 : decode cX10_readOne 3 = .ok (.istore_n 3, 1) := by decide +kernel
theorem s96_3 {d : Nat} {st : List Value} {σ : am_I} {ρ : am_R} {g : am_J} {τ : am_T} {Q : am_Q} {x0 x1 x3 : Value} {v : Int32} {u : Int32} : AW d 96 3 [x0, x1, .int u, x3] (.int v :: st) σ ρ g τ Q = AW d 96 4 [x0, x1, .int u, .int v] (st) σ ρ g τ Q := aw_lc m96 d96_3 rfl rfl rfl
theorem d96_4 : decode cX10_readOne 4 = .ok (.iload_n 3, 1) := by decide +kernel
theorem s96_4 {d : Nat} {st : List Value} {σ : am_I} {ρ : am_R} {g : am_J} {τ : am_T} {Q : am_Q} {x0 x1 x2 : Value} {v : Int32} : AW d 96 4 [x0, x1, x2, .int v] (st) σ ρ g τ Q = AW d 96 5 [x0, x1, x2, .int v] (.int v :: st) σ ρ g τ Q := aw_lc m96 d96_4 rfl rfl rfl
theorem d96_5 : decode cX10_readOne 5 = .ok (.sipush 240, 3) := by decide +kernel
theorem s96_5 {d : Nat} {st : List Value} {σ : am_I} {ρ : am_R} {g : am_J} {τ : am_T} {Q : am_Q} {x0 x1 x2 x3 : Value} : AW d 96 5 [x0, x1, x2, x3] (st) σ ρ g τ Q = AW d 96 8 [x0, x1, x2, x3] (.int 240 :: st) σ ρ g τ Q := aw_lc m96 d96_5 rfl rfl rfl
theorem d96_8 : decode cX10_readOne 8 = .ok (.if_icmp .ge 32, 3) := by decide +kernel
theorem s96_8 {d : Nat} {st : List Value} {σ : am_I} {ρ : am_R} {g : am_J} {τ : am_T} {Q : am_Q} {x0 x1 x2 x3 : Value} {v w : Int32} : AW d 96 8 [x0, x1, x2, x3] (.int w :: .int v :: st) σ ρ g τ Q = if w ≤ v then AW d 96 40 [x0, x1, x2, x3] (st) σ ρ g τ Q else AW d 96 11 [x0, x1, x2, x3] (st) σ ρ g τ Q := aw_br m96 d96_8 rfl rfl rfl
theorem d96_11 : decode cX10_readOne 11 = .ok (.aload_n 0, 1) := by decide +kernel
theorem s96_11 {d : Nat} {st : List Value} {σ : am_I} {ρ : am_R} {g : am_J} {τ : am_T} {Q : am_Q} {x1 x2 x3 : Value} {v : Nat} : AW d 96 11 [.ref v, x1, x2, x3] (st) σ ρ g τ Q = AW d 96 12 [.ref v, x1, x2, x3] (.ref v :: st) σ ρ g τ Q := aw_lc m96 d96_11 rfl rfl rfl
theorem d96_12 : decode cX10_readOne 12 = .ok (.ldc 160, 2) := by decide +kernel
theorem s96_12 {d : Nat} {st : List Value} {σ : am_I} {ρ : am_R} {g : am_J} {τ : am_T} {Q : am_Q} {x0 x1 x2 x3 : Value} : AW d 96 12 [x0, x1, x2, x3] (st) σ ρ g τ Q = AW d 96 14 [x0, x1, x2, x3] (.ref (am_BG + 13) :: st) σ ρ g τ Q := aw_lds m96 d96_12 rfl rfl
theorem d96_14 : decode cX10_readOne 14 = .ok (.invokevirtual 93, 3) := by decide +kernel
theorem s96_14 {d : Nat} {st : List Value} {σ : am_I} {ρ : am_R} {g : am_J} {τ : am_T} {Q : am_Q} {x0 x1 x2 x3 : Value} {p0 : Nat} {p1 : Nat} (ht : τ.1 p0 = 10) (hs : st.length ≤ 4) : AW (d + 1) 96 14 [x0, x1, x2, x3] (.ref p1 :: .ref p0 :: st) σ ρ g τ Q = AW d 83 0 [.ref p0, .ref p1, am_jk] [] σ ρ g τ (fun r9 σ ρ g τ => AW (d + 1) 96 17 [x0, x1, x2, x3] (r9.toList ++ st) σ ρ g τ Q) := aw_cv m96 d96_14 rfl m83 rfl rfl (by decide) en83 ok83 rfl ht hs
theorem d96_17 : decode cX10_readOne 17 = .ok (.ifCond .eq 23, 3) := by decide +kernel
theorem s96_17 {d : Nat} {st : List Value} {σ : am_I} {ρ : am_R} {g : am_J} {τ : am_T} {Q : am_Q} {x0 x1 x2 x3 : Value} {v : Int32} : AW d 96 17 [x0, x1, x2, x3] (.int v :: st) σ ρ g τ Q = if v = 0 then AW d 96 40 [x0, x1, x2, x3] (st) σ ρ g τ Q else AW d 96 20 [x0, x1, x2, x3] (st) σ ρ g τ Q := aw_br m96 d96_17 rfl rfl rfl
theorem d96_20 : decode cX10_readOne 20 = .ok (.iload_n 2, 1) := by decide +kernel
theorem s96_20 {d : Nat} {st : List Value} {σ : am_I} {ρ : am_R} {g : am_J} {τ : am_T} {Q : am_Q} {x0 x1 x3 : Value} {v : Int32} : AW d 96 20 [x0, x1, .int v, x3] (st) σ ρ g τ Q = AW d 96 21 [x0, x1, .int v, x3] (.int v :: st) σ ρ g τ Q := aw_lc m96 d96_20 rfl rfl rfl
theorem d96_21 : decode cX10_readOne 21 = .ok (.ifCond .ne 7, 3) := by decide +kernel
theorem s96_21 {d : Nat} {st : List Value} {σ : am_I} {ρ : am_R} {g : am_J} {τ : am_T} {Q : am_Q} {x0 x1 x2 x3 : Value} {v : Int32} : AW d 96 21 [x0, x1, x2, x3] (.int v :: st) σ ρ g τ Q = if ¬ v = 0 then AW d 96 28 [x0, x1, x2, x3] (st) σ ρ g τ Q else AW d 96 24 [x0, x1, x2, x3] (st) σ ρ g τ Q := aw_br m96 d96_21 rfl rfl rfl
theorem d96_24 : decode cX10_readOne 24 = .ok (.iconst 1, 1) := by decide +kernel
theorem s96_24 {d : Nat} {st : List Value} {σ : am_I} {ρ : am_R} {g : am_J} {τ : am_T} {Q : am_Q} {x0 x1 x2 x3 : Value} : AW d 96 24 [x0, x1, x2, x3] (st) σ ρ g τ Q = AW d 96 25 [x0, x1, x2, x3] (.int 1 :: st) σ ρ g τ Q := aw_lc m96 d96_24 rfl rfl rfl
theorem d96_25 : decode cX10_readOne 25 = .ok (.goto 4, 3) := by decide +kernel
theorem s96_25 {d : Nat} {st : List Value} {σ : am_I} {ρ : am_R} {g : am_J} {τ : am_T} {Q : am_Q} {x0 x1 x2 x3 : Value} : AW d 96 25 [x0, x1, x2, x3] (st) σ ρ g τ Q = AW d 96 29 [x0, x1, x2, x3] (st) σ ρ g τ Q := aw_lc m96 d96_25 rfl rfl rfl
theorem d96_28 : decode cX10_readOne 28 = .ok (.iconst 0, 1) := by decide +kernel
theorem s96_28 {d : Nat} {st : List Value} {σ : am_I} {ρ : am_R} {g : am_J} {τ : am_T} {Q : am_Q} {x0 x1 x2 x3 : Value} : AW d 96 28 [x0, x1, x2, x3] (st) σ ρ g τ Q = AW d 96 29 [x0, x1, x2, x3] (.int 0 :: st) σ ρ g τ Q := aw_lc m96 d96_28 rfl rfl rfl
theorem d96_29 : decode cX10_readOne 29 = .ok (.istore_n 2, 1) := by decide +kernel
theorem s96_29 {d : Nat} {st : List Value} {σ : am_I} {ρ : am_R} {g : am_J} {τ : am_T} {Q : am_Q} {x0 x2 x3 : Value} {v : Int32} {u : Int32} : AW d 96 29 [x0, .int u, x2, x3] (.int v :: st) σ ρ g τ Q = AW d 96 30 [x0, .int u, .int v, x3] (st) σ ρ g τ Q := aw_lc m96 d96_29 rfl rfl rfl
theorem d96_30 : decode cX10_readOne 30 = .ok (.aload_n 0, 1) := by decide +kernel
theorem s96_30 {d : Nat} {st : List Value} {σ : am_I} {ρ : am_R} {g : am_J} {τ : am_T} {Q : am_Q} {x1 x2 x3 : Value} {v : Nat} : AW d 96 30 [.ref v, x1, x2, x3] (st) σ ρ g τ Q = AW d 96 31 [.ref v, x1, x2, x3] (.ref v :: st) σ ρ g τ Q := aw_lc m96 d96_30 rfl rfl rfl
theorem d96_31 : decode cX10_readOne 31 = .ok (.invokevirtual 47, 3) := by decide +kernel
theorem s96_31 {d : Nat} {st : List Value} {σ : am_I} {ρ : am_R} {g : am_J} {τ : am_T} {Q : am_Q} {x0 x1 x2 x3 : Value} {p0 : Nat} (ht : τ.1 p0 = 10) (hs : st.length ≤ 4) : AW (d + 1) 96 31 [x0, x1, x2, x3] (.ref p0 :: st) σ ρ g τ Q = AW d 80 0 [.ref p0, am_jk] [] σ ρ g τ (fun r9 σ ρ g τ => AW (d + 1) 96 34 [x0, x1, x2, x3] (r9.toList ++ st) σ ρ g τ Q) := aw_cv m96 d96_31 rfl m80 rfl rfl (by decide) en80 ok80 rfl ht hs
theorem d96_34 : decode cX10_readOne 34 = .ok (.iinc 3 1, 3) := by decide +kernel
theorem s96_34 {d : Nat} {st : List Value} {σ : am_I} {ρ : am_R} {g : am_J} {τ : am_T} {Q : am_Q} {x0 x1 : Value} {v : Int32} {u : Int32} : AW d 96 34 [x0, x1, .int u, .int v] (st) σ ρ g τ Q = AW d 96 37 [x0, x1, .int u, .int (v + 1)] (st) σ ρ g τ Q := aw_lc m96 d96_34 rfl rfl rfl
theorem d96_37 : decode cX10_readOne 37 = .ok (.goto (-33), 3) := by decide +kernel
theorem s96_37 {d : Nat} {st : List Value} {σ : am_I} {ρ : am_R} {g : am_J} {τ : am_T} {Q : am_Q} {x0 x1 x2 x3 : Value} : AW d 96 37 [x0, x1, x2, x3] (st) σ ρ g τ Q = AW d 96 4 [x0, x1, x2, x3] (st) σ ρ g τ Q := aw_lc m96 d96_37 rfl rfl rfl
theorem d96_40 : decode cX10_readOne 40 = .ok (.aload_n 0, 1) := by decide +kernel
theorem s96_40 {d : Nat} {st : List Value} {σ : am_I} {ρ : am_R} {g : am_J} {τ : am_T} {Q : am_Q} {x1 x2 x3 : Value} {v : Nat} : AW d 96 40 [.ref v, x1, x2, x3] (st) σ ρ g τ Q = AW d 96 41 [.ref v, x1, x2, x3] (.ref v :: st) σ ρ g τ Q := aw_lc m96 d96_40 rfl rfl rfl
theorem d96_41 : decode cX10_readOne 41 = .ok (.bipush 40, 2) := by decide +kernel
theorem s96_41 {d : Nat} {st : List Value} {σ : am_I} {ρ : am_R} {g : am_J} {τ : am_T} {Q : am_Q} {x0 x1 x2 x3 : Value} : AW d 96 41 [x0, x1, x2, x3] (st) σ ρ g τ Q = AW d 96 43 [x0, x1, x2, x3] (.int 40 :: st) σ ρ g τ Q := aw_lc m96 d96_41 rfl rfl rfl
theorem d96_43 : decode cX10_readOne 43 = .ok (.invokevirtual 100, 3) := by decide +kernel
theorem s96_43 {d : Nat} {st : List Value} {σ : am_I} {ρ : am_R} {g : am_J} {τ : am_T} {Q : am_Q} {x0 x1 x2 x3 : Value} {p0 : Nat} {p1 : Int32} (ht : τ.1 p0 = 10) (hs : st.length ≤ 4) : AW (d + 1) 96 43 [x0, x1, x2, x3] (.int p1 :: .ref p0 :: st) σ ρ g τ Q = AW d 84 0 [.ref p0, .int p1] [] σ ρ g τ (fun r9 σ ρ g τ => AW (d + 1) 96 46 [x0, x1, x2, x3] (r9.toList ++ st) σ ρ g τ Q) := aw_cv m96 d96_43 rfl m84 rfl rfl (by decide) en84 ok84 rfl ht hs
theorem d96_46 : decode cX10_readOne 46 = .ok (.ifCond .eq 11, 3) := by decide +kernel
theorem s96_46 {d : Nat} {st : List Value} {σ : am_I} {ρ : am_R} {g : am_J} {τ : am_T} {Q : am_Q} {x0 x1 x2 x3 : Value} {v : Int32} : AW d 96 46 [x0, x1, x2, x3] (.int v :: st) σ ρ g τ Q = if v = 0 then AW d 96 57 [x0, x1, x2, x3] (st) σ ρ g τ Q else AW d 96 49 [x0, x1, x2, x3] (st) σ ρ g τ Q := aw_br m96 d96_46 rfl rfl rfl
theorem d96_49 : decode cX10_readOne 49 = .ok (.aload_n 0, 1) := by decide +kernel
theorem s96_49 {d : Nat} {st : List Value} {σ : am_I} {ρ : am_R} {g : am_J} {τ : am_T} {Q : am_Q} {x1 x2 x3 : Value} {v : Nat} : AW d 96 49 [.ref v, x1, x2, x3] (st) σ ρ g τ Q = AW d 96 50 [.ref v, x1, x2, x3] (.ref v :: st) σ ρ g τ Q := aw_lc m96 d96_49 rfl rfl rfl
theorem d96_50 : decode cX10_readOne 50 = .ok (.iload_n 1, 1) := by decide +kernel
theorem s96_50 {d : Nat} {st : List Value} {σ : am_I} {ρ : am_R} {g : am_J} {τ : am_T} {Q : am_Q} {x0 x2 x3 : Value} {v : Int32} : AW d 96 50 [x0, .int v, x2, x3] (st) σ ρ g τ Q = AW d 96 51 [x0, .int v, x2, x3] (.int v :: st) σ ρ g τ Q := aw_lc m96 d96_50 rfl rfl rfl
theorem d96_51 : decode cX10_readOne 51 = .ok (.invokevirtual 162, 3) := by decide +kernel
theorem s96_51 {d : Nat} {st : List Value} {σ : am_I} {ρ : am_R} {g : am_J} {τ : am_T} {Q : am_Q} {x0 x1 x2 x3 : Value} {p0 : Nat} {p1 : Int32} (ht : τ.1 p0 = 10) (hs : st.length ≤ 4) : AW (d + 1) 96 51 [x0, x1, x2, x3] (.int p1 :: .ref p0 :: st) σ ρ g τ Q = AW d 97 0 [.ref p0, .int p1] [] σ ρ g τ (fun r9 σ ρ g τ => AW (d + 1) 96 54 [x0, x1, x2, x3] (r9.toList ++ st) σ ρ g τ Q) := aw_cv m96 d96_51 rfl m97 rfl rfl (by decide) en97 ok97 rfl ht hs
theorem d96_54 : decode cX10_readOne 54 = .ok (.goto 7, 3) := by decide +kernel
theorem s96_54 {d : Nat} {st : List Value} {σ : am_I} {ρ : am_R} {g : am_J} {τ : am_T} {Q : am_Q} {x0 x1 x2 x3 : Value} : AW d 96 54 [x0, x1, x2, x3] (st) σ ρ g τ Q = AW d 96 61 [x0, x1, x2, x3] (st) σ ρ g τ Q := aw_lc m96 d96_54 rfl rfl rfl
theorem d96_57 : decode cX10_readOne 57 = .ok (.aload_n 0, 1) := by decide +kernel
theorem s96_57 {d : Nat} {st : List Value} {σ : am_I} {ρ : am_R} {g : am_J} {τ : am_T} {Q : am_Q} {x1 x2 x3 : Value} {v : Nat} : AW d 96 57 [.ref v, x1, x2, x3] (st) σ ρ g τ Q = AW d 96 58 [.ref v, x1, x2, x3] (.ref v :: st) σ ρ g τ Q := aw_lc m96 d96_57 rfl rfl rfl
theorem d96_58 : decode cX10_readOne 58 = .ok (.invokevirtual 165, 3) := by decide +kernel
theorem s96_58 {d : Nat} {st : List Value} {σ : am_I} {ρ : am_R} {g : am_J} {τ : am_T} {Q : am_Q} {x0 x1 x2 x3 : Value} {p0 : Nat} (ht : τ.1 p0 = 10) (hs : st.length ≤ 4) : AW (d + 1) 96 58 [x0, x1, x2, x3] (.ref p0 :: st) σ ρ g τ Q = AW d 98 0 [.ref p0, am_jk, am_jk, am_jk] [] σ ρ g τ (fun r9 σ ρ g τ => AW (d + 1) 96 61 [x0, x1, x2, x3] (r9.toList ++ st) σ ρ g τ Q) := aw_cv m96 d96_58 rfl m98 rfl rfl (by decide) en98 ok98 rfl ht hs
theorem d96_61 : decode cX10_readOne 61 = .ok (.istore_n 3, 1) := by decide +kernel
theorem s96_61 {d : Nat} {st : List Value} {σ : am_I} {ρ : am_R} {g : am_J} {τ : am_T} {Q : am_Q} {x0 x1 x3 : Value} {v : Int32} {u : Int32} : AW d 96 61 [x0, x1, .int u, x3] (.int v :: st) σ ρ g τ Q = AW d 96 62 [x0, x1, .int u, .int v] (st) σ ρ g τ Q := aw_lc m96 d96_61 rfl rfl rfl
theorem d96_62 : decode cX10_readOne 62 = .ok (.iload_n 3, 1) := by decide +kernel
theorem s96_62 {d : Nat} {st : List Value} {σ : am_I} {ρ : am_R} {g : am_J} {τ : am_T} {Q : am_Q} {x0 x1 x2 : Value} {v : Int32} : AW d 96 62 [x0, x1, x2, .int v] (st) σ ρ g τ Q = AW d 96 63 [x0, x1, x2, .int v] (.int v :: st) σ ρ g τ Q := aw_lc m96 d96_62 rfl rfl rfl
theorem d96_63 : decode cX10_readOne 63 = .ok (.ifCond .eq 12, 3) := by decide +kernel
theorem s96_63 {d : Nat} {st : List Value} {σ : am_I} {ρ : am_R} {g : am_J} {τ : am_T} {Q : am_Q} {x0 x1 x2 x3 : Value} {v : Int32} : AW d 96 63 [x0, x1, x2, x3] (.int v :: st) σ ρ g τ Q = if v = 0 then AW d 96 75 [x0, x1, x2, x3] (st) σ ρ g τ Q else AW d 96 66 [x0, x1, x2, x3] (st) σ ρ g τ Q := aw_br m96 d96_63 rfl rfl rfl
theorem d96_66 : decode cX10_readOne 66 = .ok (.iload_n 2, 1) := by decide +kernel
theorem s96_66 {d : Nat} {st : List Value} {σ : am_I} {ρ : am_R} {g : am_J} {τ : am_T} {Q : am_Q} {x0 x1 x3 : Value} {v : Int32} : AW d 96 66 [x0, x1, .int v, x3] (st) σ ρ g τ Q = AW d 96 67 [x0, x1, .int v, x3] (.int v :: st) σ ρ g τ Q := aw_lc m96 d96_66 rfl rfl rfl
theorem d96_67 : decode cX10_readOne 67 = .ok (.ifCond .eq 8, 3) := by decide +kernel
theorem s96_67 {d : Nat} {st : List Value} {σ : am_I} {ρ : am_R} {g : am_J} {τ : am_T} {Q : am_Q} {x0 x1 x2 x3 : Value} {v : Int32} : AW d 96 67 [x0, x1, x2, x3] (.int v :: st) σ ρ g τ Q = if v = 0 then AW d 96 75 [x0, x1, x2, x3] (st) σ ρ g τ Q else AW d 96 70 [x0, x1, x2, x3] (st) σ ρ g τ Q := aw_br m96 d96_67 rfl rfl rfl
theorem d96_70 : decode cX10_readOne 70 = .ok (.aload_n 0, 1) := by decide +kernel
theorem s96_70 {d : Nat} {st : List Value} {σ : am_I} {ρ : am_R} {g : am_J} {τ : am_T} {Q : am_Q} {x1 x2 x3 : Value} {v : Nat} : AW d 96 70 [.ref v, x1, x2, x3] (st) σ ρ g τ Q = AW d 96 71 [.ref v, x1, x2, x3] (.ref v :: st) σ ρ g τ Q := aw_lc m96 d96_70 rfl rfl rfl
theorem d96_71 : decode cX10_readOne 71 = .ok (.iconst 2, 1) := by decide +kernel
theorem s96_71 {d : Nat} {st : List Value} {σ : am_I} {ρ : am_R} {g : am_J} {τ : am_T} {Q : am_Q} {x0 x1 x2 x3 : Value} : AW d 96 71 [x0, x1, x2, x3] (st) σ ρ g τ Q = AW d 96 72 [x0, x1, x2, x3] (.int 2 :: st) σ ρ g τ Q := aw_lc m96 d96_71 rfl rfl rfl
theorem d96_72 : decode cX10_readOne 72 = .ok (.invokevirtual 151, 3) := by decide +kernel
theorem s96_72 {d : Nat} {st : List Value} {σ : am_I} {ρ : am_R} {g : am_J} {τ : am_T} {Q : am_Q} {x0 x1 x2 x3 : Value} {p0 : Nat} {p1 : Int32} (ht : τ.1 p0 = 10) (hs : st.length ≤ 4) : AW (d + 1) 96 72 [x0, x1, x2, x3] (.int p1 :: .ref p0 :: st) σ ρ g τ Q = AW d 93 0 [.ref p0, .int p1] [] σ ρ g τ (fun r9 σ ρ g τ => AW (d + 1) 96 75 [x0, x1, x2, x3] (r9.toList ++ st) σ ρ g τ Q) := aw_cv m96 d96_72 rfl m93 rfl rfl (by decide) en93 ok93 rfl ht hs
theorem d96_75 : decode cX10_readOne 75 = .ok (.iload_n 3, 1) := by decide +kernel
theorem s96_75 {d : Nat} {st : List Value} {σ : am_I} {ρ : am_R} {g : am_J} {τ : am_T} {Q : am_Q} {x0 x1 x2 : Value} {v : Int32} : AW d 96 75 [x0, x1, x2, .int v] (st) σ ρ g τ Q = AW d 96 76 [x0, x1, x2, .int v] (.int v :: st) σ ρ g τ Q := aw_lc m96 d96_75 rfl rfl rfl
theorem d96_76 : decode cX10_readOne 76 = .ok (.ireturn, 1) := by decide +kernel
theorem s96_76 {d : Nat} {σ : am_I} {ρ : am_R} {g : am_J} {τ : am_T} {Q : am_Q} {x0 x1 x2 x3 : Value} {v : Int32} (hv : am_b01 v = true) : AW d 96 76 [x0, x1, x2, x3] ([.int v]) σ ρ g τ Q = Q (some (.int v)) σ ρ g τ := aw_rz m96 d96_76 rfl hv
theorem d97_0 : decode cX10_readInner 0 = .ok (.iload_n 1, 1) := by decide +kernel
theorem s97_0 {d : Nat} {st : List Value} {σ : am_I} {ρ : am_R} {g : am_J} {τ : am_T} {Q : am_Q} {x0 : Value} {v : Int32} : AW d 97 0 [x0, .int v] (st) σ ρ g τ Q = AW d 97 1 [x0, .int v] (.int v :: st) σ ρ g τ Q := aw_lc m97 d97_0 rfl rfl rfl
theorem d97_1 : decode cX10_readInner 1 = .ok (.iconst 4, 1) := by decide +kernel
theorem s97_1 {d : Nat} {st : List Value} {σ : am_I} {ρ : am_R} {g : am_J} {τ : am_T} {Q : am_Q} {x0 x1 : Value} : AW d 97 1 [x0, x1] (st) σ ρ g τ Q = AW d 97 2 [x0, x1] (.int 4 :: st) σ ρ g τ Q := aw_lc m97 d97_1 rfl rfl rfl
theorem d97_2 : decode cX10_readInner 2 = .ok (.if_icmp .lt 5, 3) := by decide +kernel
theorem s97_2 {d : Nat} {st : List Value} {σ : am_I} {ρ : am_R} {g : am_J} {τ : am_T} {Q : am_Q} {x0 x1 : Value} {v w : Int32} : AW d 97 2 [x0, x1] (.int w :: .int v :: st) σ ρ g τ Q = if v < w then AW d 97 7 [x0, x1] (st) σ ρ g τ Q else AW d 97 5 [x0, x1] (st) σ ρ g τ Q := aw_br m97 d97_2 rfl rfl rfl
theorem d97_5 : decode cX10_readInner 5 = .ok (.iconst 0, 1) := by decide +kernel
theorem s97_5 {d : Nat} {st : List Value} {σ : am_I} {ρ : am_R} {g : am_J} {τ : am_T} {Q : am_Q} {x0 x1 : Value} : AW d 97 5 [x0, x1] (st) σ ρ g τ Q = AW d 97 6 [x0, x1] (.int 0 :: st) σ ρ g τ Q := aw_lc m97 d97_5 rfl rfl rfl
theorem d97_6 : decode cX10_readInner 6 = .ok (.ireturn, 1) := by decide +kernel
theorem s97_6 {d : Nat} {σ : am_I} {ρ : am_R} {g : am_J} {τ : am_T} {Q : am_Q} {x0 x1 : Value} {v : Int32} (hv : am_b01 v = true) : AW d 97 6 [x0, x1] ([.int v]) σ ρ g τ Q = Q (some (.int v)) σ ρ g τ := aw_rz m97 d97_6 rfl hv
theorem d97_7 : decode cX10_readInner 7 = .ok (.aload_n 0, 1) := by decide +kernel
theorem s97_7 {d : Nat} {st : List Value} {σ : am_I} {ρ : am_R} {g : am_J} {τ : am_T} {Q : am_Q} {x1 : Value} {v : Nat} : AW d 97 7 [.ref v, x1] (st) σ ρ g τ Q = AW d 97 8 [.ref v, x1] (.ref v :: st) σ ρ g τ Q := aw_lc m97 d97_7 rfl rfl rfl
theorem d97_8 : decode cX10_readInner 8 = .ok (.invokevirtual 47, 3) := by decide +kernel
theorem s97_8 {d : Nat} {st : List Value} {σ : am_I} {ρ : am_R} {g : am_J} {τ : am_T} {Q : am_Q} {x0 x1 : Value} {p0 : Nat} (ht : τ.1 p0 = 10) (hs : st.length ≤ 4) : AW (d + 1) 97 8 [x0, x1] (.ref p0 :: st) σ ρ g τ Q = AW d 80 0 [.ref p0, am_jk] [] σ ρ g τ (fun r9 σ ρ g τ => AW (d + 1) 97 11 [x0, x1] (r9.toList ++ st) σ ρ g τ Q) := aw_cv m97 d97_8 rfl m80 rfl rfl (by decide) en80 ok80 rfl ht hs
theorem d97_11 : decode cX10_readInner 11 = .ok (.aload_n 0, 1) := by decide +kernel
theorem s97_11 {d : Nat} {st : List Value} {σ : am_I} {ρ : am_R} {g : am_J} {τ : am_T} {Q : am_Q} {x1 : Value} {v : Nat} : AW d 97 11 [.ref v, x1] (st) σ ρ g τ Q = AW d 97 12 [.ref v, x1] (.ref v :: st) σ ρ g τ Q := aw_lc m97 d97_11 rfl rfl rfl
theorem d97_12 : decode cX10_readInner 12 = .ok (.iload_n 1, 1) := by decide +kernel
theorem s97_12 {d : Nat} {st : List Value} {σ : am_I} {ρ : am_R} {g : am_J} {τ : am_T} {Q : am_Q} {x0 : Value} {v : Int32} : AW d 97 12 [x0, .int v] (st) σ ρ g τ Q = AW d 97 13 [x0, .int v] (.int v :: st) σ ρ g τ Q := aw_lc m97 d97_12 rfl rfl rfl
theorem d97_13 : decode cX10_readInner 13 = .ok (.iconst 1, 1) := by decide +kernel
theorem s97_13 {d : Nat} {st : List Value} {σ : am_I} {ρ : am_R} {g : am_J} {τ : am_T} {Q : am_Q} {x0 x1 : Value} : AW d 97 13 [x0, x1] (st) σ ρ g τ Q = AW d 97 14 [x0, x1] (.int 1 :: st) σ ρ g τ Q := aw_lc m97 d97_13 rfl rfl rfl
theorem d97_14 : decode cX10_readInner 14 = .ok (.iadd, 1) := by decide +kernel
theorem s97_14 {d : Nat} {st : List Value} {σ : am_I} {ρ : am_R} {g : am_J} {τ : am_T} {Q : am_Q} {x0 x1 : Value} {v w : Int32} : AW d 97 14 [x0, x1] (.int w :: .int v :: st) σ ρ g τ Q = AW d 97 15 [x0, x1] (.int (v + w) :: st) σ ρ g τ Q := aw_lc m97 d97_14 rfl rfl rfl
theorem d97_15 : decode cX10_readInner 15 = .ok (.invokevirtual 97, 3) := by decide +kernel
theorem s97_15 {d : Nat} {st : List Value} {σ : am_I} {ρ : am_R} {g : am_J} {τ : am_T} {Q : am_Q} {x0 x1 : Value} {p0 : Nat} {p1 : Int32} (ht : τ.1 p0 = 10) (hs : st.length ≤ 4) : AW (d + 1) 97 15 [x0, x1] (.int p1 :: .ref p0 :: st) σ ρ g τ Q = AW d 94 0 [.ref p0, .int p1, am_jk] [] σ ρ g τ (fun r9 σ ρ g τ => AW (d + 1) 97 18 [x0, x1] (r9.toList ++ st) σ ρ g τ Q) := aw_cv m97 d97_15 rfl m94 rfl rfl (by decide) en94 ok94 rfl ht hs
theorem d97_18 : decode cX10_readInner 18 = .ok (.ifCond .eq 12, 3) := by decide +kernel
theorem s97_18 {d : Nat} {st : List Value} {σ : am_I} {ρ : am_R} {g : am_J} {τ : am_T} {Q : am_Q} {x0 x1 : Value} {v : Int32} : AW d 97 18 [x0, x1] (.int v :: st) σ ρ g τ Q = if v = 0 then AW d 97 30 [x0, x1] (st) σ ρ g τ Q else AW d 97 21 [x0, x1] (st) σ ρ g τ Q := aw_br m97 d97_18 rfl rfl rfl
theorem d97_21 : decode cX10_readInner 21 = .ok (.aload_n 0, 1) := by decide +kernel
theorem s97_21 {d : Nat} {st : List Value} {σ : am_I} {ρ : am_R} {g : am_J} {τ : am_T} {Q : am_Q} {x1 : Value} {v : Nat} : AW d 97 21 [.ref v, x1] (st) σ ρ g τ Q = AW d 97 22 [.ref v, x1] (.ref v :: st) σ ρ g τ Q := aw_lc m97 d97_21 rfl rfl rfl
theorem d97_22 : decode cX10_readInner 22 = .ok (.bipush 41, 2) := by decide +kernel
theorem s97_22 {d : Nat} {st : List Value} {σ : am_I} {ρ : am_R} {g : am_J} {τ : am_T} {Q : am_Q} {x0 x1 : Value} : AW d 97 22 [x0, x1] (st) σ ρ g τ Q = AW d 97 24 [x0, x1] (.int 41 :: st) σ ρ g τ Q := aw_lc m97 d97_22 rfl rfl rfl
theorem d97_24 : decode cX10_readInner 24 = .ok (.invokevirtual 100, 3) := by decide +kernel
theorem s97_24 {d : Nat} {st : List Value} {σ : am_I} {ρ : am_R} {g : am_J} {τ : am_T} {Q : am_Q} {x0 x1 : Value} {p0 : Nat} {p1 : Int32} (ht : τ.1 p0 = 10) (hs : st.length ≤ 4) : AW (d + 1) 97 24 [x0, x1] (.int p1 :: .ref p0 :: st) σ ρ g τ Q = AW d 84 0 [.ref p0, .int p1] [] σ ρ g τ (fun r9 σ ρ g τ => AW (d + 1) 97 27 [x0, x1] (r9.toList ++ st) σ ρ g τ Q) := aw_cv m97 d97_24 rfl m84 rfl rfl (by decide) en84 ok84 rfl ht hs
theorem d97_27 : decode cX10_readInner 27 = .ok (.ifCond .ne 5, 3) := by decide +kernel
theorem s97_27 {d : Nat} {st : List Value} {σ : am_I} {ρ : am_R} {g : am_J} {τ : am_T} {Q : am_Q} {x0 x1 : Value} {v : Int32} : AW d 97 27 [x0, x1] (.int v :: st) σ ρ g τ Q = if ¬ v = 0 then AW d 97 32 [x0, x1] (st) σ ρ g τ Q else AW d 97 30 [x0, x1] (st) σ ρ g τ Q := aw_br m97 d97_27 rfl rfl rfl
theorem d97_30 : decode cX10_readInner 30 = .ok (.iconst 0, 1) := by decide +kernel
theorem s97_30 {d : Nat} {st : List Value} {σ : am_I} {ρ : am_R} {g : am_J} {τ : am_T} {Q : am_Q} {x0 x1 : Value} : AW d 97 30 [x0, x1] (st) σ ρ g τ Q = AW d 97 31 [x0, x1] (.int 0 :: st) σ ρ g τ Q := aw_lc m97 d97_30 rfl rfl rfl
theorem d97_31 : decode cX10_readInner 31 = .ok (.ireturn, 1) := by decide +kernel
theorem s97_31 {d : Nat} {σ : am_I} {ρ : am_R} {g : am_J} {τ : am_T} {Q : am_Q} {x0 x1 : Value} {v : Int32} (hv : am_b01 v = true) : AW d 97 31 [x0, x1] ([.int v]) σ ρ g τ Q = Q (some (.int v)) σ ρ g τ := aw_rz m97 d97_31 rfl hv
theorem d97_32 : decode cX10_readInner 32 = .ok (.aload_n 0, 1) := by decide +kernel
theorem s97_32 {d : Nat} {st : List Value} {σ : am_I} {ρ : am_R} {g : am_J} {τ : am_T} {Q : am_Q} {x1 : Value} {v : Nat} : AW d 97 32 [.ref v, x1] (st) σ ρ g τ Q = AW d 97 33 [.ref v, x1] (.ref v :: st) σ ρ g τ Q := aw_lc m97 d97_32 rfl rfl rfl
theorem d97_33 : decode cX10_readInner 33 = .ok (.invokevirtual 47, 3) := by decide +kernel
theorem s97_33 {d : Nat} {st : List Value} {σ : am_I} {ρ : am_R} {g : am_J} {τ : am_T} {Q : am_Q} {x0 x1 : Value} {p0 : Nat} (ht : τ.1 p0 = 10) (hs : st.length ≤ 4) : AW (d + 1) 97 33 [x0, x1] (.ref p0 :: st) σ ρ g τ Q = AW d 80 0 [.ref p0, am_jk] [] σ ρ g τ (fun r9 σ ρ g τ => AW (d + 1) 97 36 [x0, x1] (r9.toList ++ st) σ ρ g τ Q) := aw_cv m97 d97_33 rfl m80 rfl rfl (by decide) en80 ok80 rfl ht hs
theorem d97_36 : decode cX10_readInner 36 = .ok (.iconst 1, 1) := by decide +kernel
theorem s97_36 {d : Nat} {st : List Value} {σ : am_I} {ρ : am_R} {g : am_J} {τ : am_T} {Q : am_Q} {x0 x1 : Value} : AW d 97 36 [x0, x1] (st) σ ρ g τ Q = AW d 97 37 [x0, x1] (.int 1 :: st) σ ρ g τ Q := aw_lc m97 d97_36 rfl rfl rfl
theorem d97_37 : decode cX10_readInner 37 = .ok (.ireturn, 1) := by decide +kernel
theorem s97_37 {d : Nat} {σ : am_I} {ρ : am_R} {g : am_J} {τ : am_T} {Q : am_Q} {x0 x1 : Value} {v : Int32} (hv : am_b01 v = true) : AW d 97 37 [x0, x1] ([.int v]) σ ρ g τ Q = Q (some (.int v)) σ ρ g τ := aw_rz m97 d97_37 rfl hv
theorem d98_0 : decode cX10_readPlain 0 = .ok (.aload_n 0, 1) := by decide +kernel
theorem s98_0 {d : Nat} {st : List Value} {σ : am_I} {ρ : am_R} {g : am_J} {τ : am_T} {Q : am_Q} {x1 x2 x3 : Value} {v : Nat} : AW d 98 0 [.ref v, x1, x2, x3] (st) σ ρ g τ Q = AW d 98 1 [.ref v, x1, x2, x3] (.ref v :: st) σ ρ g τ Q := aw_lc m98 d98_0 rfl rfl rfl
theorem d98_1 : decode cX10_readPlain 1 = .ok (.invokevirtual 125, 3) := by decide +kernel
theorem s98_1 {d : Nat} {st : List Value} {σ : am_I} {ρ : am_R} {g : am_J} {τ : am_T} {Q : am_Q} {x0 x1 x2 x3 : Value} {p0 : Nat} (ht : τ.1 p0 = 10) (hs : st.length ≤ 4) : AW (d + 1) 98 1 [x0, x1, x2, x3] (.ref p0 :: st) σ ρ g τ Q = AW d 91 0 [.ref p0] [] σ ρ g τ (fun r9 σ ρ g τ => AW (d + 1) 98 4 [x0, x1, x2, x3] (r9.toList ++ st) σ ρ g τ Q) := aw_cv m98 d98_1 rfl m91 rfl rfl (by decide) en91 ok91 rfl ht hs
theorem d98_4 : decode cX10_readPlain 4 = .ok (.istore_n 1, 1) := by decide +kernel
theorem s98_4r {d : Nat} {st : List Value} {σ : am_I} {ρ : am_R} {g : am_J} {τ : am_T} {Q : am_Q} {x1 x2 x3 : Value} {v : Int32} {u : Nat} : AW d 98 4 [.ref u, x1, x2, x3] (.int v :: st) σ ρ g τ Q = AW d 98 5 [.ref u, .int v, x2, x3] (st) σ ρ g τ Q := aw_lc m98 d98_4 rfl rfl rfl
theorem d98_5 : decode cX10_readPlain 5 = .ok (.iload_n 1, 1) := by decide +kernel
theorem s98_5 {d : Nat} {st : List Value} {σ : am_I} {ρ : am_R} {g : am_J} {τ : am_T} {Q : am_Q} {x0 x2 x3 : Value} {v : Int32} : AW d 98 5 [x0, .int v, x2, x3] (st) σ ρ g τ Q = AW d 98 6 [x0, .int v, x2, x3] (.int v :: st) σ ρ g τ Q := aw_lc m98 d98_5 rfl rfl rfl
theorem d98_6 : decode cX10_readPlain 6 = .ok (.ifCond .lt 20, 3) := by decide +kernel
theorem s98_6 {d : Nat} {st : List Value} {σ : am_I} {ρ : am_R} {g : am_J} {τ : am_T} {Q : am_Q} {x0 x1 x2 x3 : Value} {v : Int32} : AW d 98 6 [x0, x1, x2, x3] (.int v :: st) σ ρ g τ Q = if v < 0 then AW d 98 26 [x0, x1, x2, x3] (st) σ ρ g τ Q else AW d 98 9 [x0, x1, x2, x3] (st) σ ρ g τ Q := aw_br m98 d98_6 rfl rfl rfl
theorem d98_9 : decode cX10_readPlain 9 = .ok (.aload_n 0, 1) := by decide +kernel
theorem s98_9 {d : Nat} {st : List Value} {σ : am_I} {ρ : am_R} {g : am_J} {τ : am_T} {Q : am_Q} {x1 x2 x3 : Value} {v : Nat} : AW d 98 9 [.ref v, x1, x2, x3] (st) σ ρ g τ Q = AW d 98 10 [.ref v, x1, x2, x3] (.ref v :: st) σ ρ g τ Q := aw_lc m98 d98_9 rfl rfl rfl
theorem d98_10 : decode cX10_readPlain 10 = .ok (.iconst 1, 1) := by decide +kernel
theorem s98_10 {d : Nat} {st : List Value} {σ : am_I} {ρ : am_R} {g : am_J} {τ : am_T} {Q : am_Q} {x0 x1 x2 x3 : Value} : AW d 98 10 [x0, x1, x2, x3] (st) σ ρ g τ Q = AW d 98 11 [x0, x1, x2, x3] (.int 1 :: st) σ ρ g τ Q := aw_lc m98 d98_10 rfl rfl rfl
theorem d98_11 : decode cX10_readPlain 11 = .ok (.iconst 0, 1) := by decide +kernel
theorem s98_11 {d : Nat} {st : List Value} {σ : am_I} {ρ : am_R} {g : am_J} {τ : am_T} {Q : am_Q} {x0 x1 x2 x3 : Value} : AW d 98 11 [x0, x1, x2, x3] (st) σ ρ g τ Q = AW d 98 12 [x0, x1, x2, x3] (.int 0 :: st) σ ρ g τ Q := aw_lc m98 d98_11 rfl rfl rfl
theorem d98_12 : decode cX10_readPlain 12 = .ok (.iconst 0, 1) := by decide +kernel
theorem s98_12 {d : Nat} {st : List Value} {σ : am_I} {ρ : am_R} {g : am_J} {τ : am_T} {Q : am_Q} {x0 x1 x2 x3 : Value} : AW d 98 12 [x0, x1, x2, x3] (st) σ ρ g τ Q = AW d 98 13 [x0, x1, x2, x3] (.int 0 :: st) σ ρ g τ Q := aw_lc m98 d98_12 rfl rfl rfl
theorem d98_13 : decode cX10_readPlain 13 = .ok (.iload_n 1, 1) := by decide +kernel
theorem s98_13 {d : Nat} {st : List Value} {σ : am_I} {ρ : am_R} {g : am_J} {τ : am_T} {Q : am_Q} {x0 x2 x3 : Value} {v : Int32} : AW d 98 13 [x0, .int v, x2, x3] (st) σ ρ g τ Q = AW d 98 14 [x0, .int v, x2, x3] (.int v :: st) σ ρ g τ Q := aw_lc m98 d98_13 rfl rfl rfl
theorem d98_14 : decode cX10_readPlain 14 = .ok (.invokestatic 168, 3) := by decide +kernel
theorem s98_14 {d : Nat} {st : List Value} {σ : am_I} {ρ : am_R} {g : am_J} {τ : am_T} {Q : am_Q} {x0 x1 x2 x3 : Value} {p0 : Int32} {p1 : Int32} {p2 : Int32} {p3 : Int32} (hs : st.length ≤ 4) : AW (d + 1) 98 14 [x0, x1, x2, x3] (.int p3 :: .int p2 :: .int p1 :: .int p0 :: st) σ ρ g τ Q = AW d 51 0 [.int p0, .int p1, .int p2, .int p3] [] σ ρ g τ (fun r9 σ ρ g τ => AW (d + 1) 98 17 [x0, x1, x2, x3] (r9.toList ++ st) σ ρ g τ Q) := aw_cs m98 d98_14 rfl (by simp only [List.length_cons]; omega) rfl rfl en51 ok51 rfl hs
theorem d98_17 : decode cX10_readPlain 17 = .ok (.invokevirtual 151, 3) := by decide +kernel
theorem s98_17 {d : Nat} {st : List Value} {σ : am_I} {ρ : am_R} {g : am_J} {τ : am_T} {Q : am_Q} {x0 x1 x2 x3 : Value} {p0 : Nat} {p1 : Int32} (ht : τ.1 p0 = 10) (hs : st.length ≤ 4) : AW (d + 1) 98 17 [x0, x1, x2, x3] (.int p1 :: .ref p0 :: st) σ ρ g τ Q = AW d 93 0 [.ref p0, .int p1] [] σ ρ g τ (fun r9 σ ρ g τ => AW (d + 1) 98 20 [x0, x1, x2, x3] (r9.toList ++ st) σ ρ g τ Q) := aw_cv m98 d98_17 rfl m93 rfl rfl (by decide) en93 ok93 rfl ht hs
theorem d98_20 : decode cX10_readPlain 20 = .ok (.aload_n 0, 1) := by decide +kernel
theorem s98_20 {d : Nat} {st : List Value} {σ : am_I} {ρ : am_R} {g : am_J} {τ : am_T} {Q : am_Q} {x1 x2 x3 : Value} {v : Nat} : AW d 98 20 [.ref v, x1, x2, x3] (st) σ ρ g τ Q = AW d 98 21 [.ref v, x1, x2, x3] (.ref v :: st) σ ρ g τ Q := aw_lc m98 d98_20 rfl rfl rfl
theorem d98_21 : decode cX10_readPlain 21 = .ok (.invokevirtual 47, 3) := by decide +kernel
theorem s98_21 {d : Nat} {st : List Value} {σ : am_I} {ρ : am_R} {g : am_J} {τ : am_T} {Q : am_Q} {x0 x1 x2 x3 : Value} {p0 : Nat} (ht : τ.1 p0 = 10) (hs : st.length ≤ 4) : AW (d + 1) 98 21 [x0, x1, x2, x3] (.ref p0 :: st) σ ρ g τ Q = AW d 80 0 [.ref p0, am_jk] [] σ ρ g τ (fun r9 σ ρ g τ => AW (d + 1) 98 24 [x0, x1, x2, x3] (r9.toList ++ st) σ ρ g τ Q) := aw_cv m98 d98_21 rfl m80 rfl rfl (by decide) en80 ok80 rfl ht hs
theorem d98_24 : decode cX10_readPlain 24 = .ok (.iconst 1, 1) := by decide +kernel
theorem s98_24 {d : Nat} {st : List Value} {σ : am_I} {ρ : am_R} {g : am_J} {τ : am_T} {Q : am_Q} {x0 x1 x2 x3 : Value} : AW d 98 24 [x0, x1, x2, x3] (st) σ ρ g τ Q = AW d 98 25 [x0, x1, x2, x3] (.int 1 :: st) σ ρ g τ Q := aw_lc m98 d98_24 rfl rfl rfl
theorem d98_25 : decode cX10_readPlain 25 = .ok (.ireturn, 1) := by decide +kernel
theorem s98_25 {d : Nat} {σ : am_I} {ρ : am_R} {g : am_J} {τ : am_T} {Q : am_Q} {x0 x1 x2 x3 : Value} {v : Int32} (hv : am_b01 v = true) : AW d 98 25 [x0, x1, x2, x3] ([.int v]) σ ρ g τ Q = Q (some (.int v)) σ ρ g τ := aw_rz m98 d98_25 rfl hv
theorem d98_26 : decode cX10_readPlain 26 = .ok (.aload_n 0, 1) := by decide +kernel
theorem s98_26 {d : Nat} {st : List Value} {σ : am_I} {ρ : am_R} {g : am_J} {τ : am_T} {Q : am_Q} {x1 x2 x3 : Value} {v : Nat} : AW d 98 26 [.ref v, x1, x2, x3] (st) σ ρ g τ Q = AW d 98 27 [.ref v, x1, x2, x3] (.ref v :: st) σ ρ g τ Q := aw_lc m98 d98_26 rfl rfl rfl
theorem d98_27 : decode cX10_readPlain 27 = .ok (.invokevirtual 172, 3) := by decide +kernel
theorem s98_27 {d : Nat} {st : List Value} {σ : am_I} {ρ : am_R} {g : am_J} {τ : am_T} {Q : am_Q} {x0 x1 x2 x3 : Value} {p0 : Nat} (ht : τ.1 p0 = 10) (hs : st.length ≤ 4) : AW (d + 1) 98 27 [x0, x1, x2, x3] (.ref p0 :: st) σ ρ g τ Q = AW d 92 0 [.ref p0] [] σ ρ g τ (fun r9 σ ρ g τ => AW (d + 1) 98 30 [x0, x1, x2, x3] (r9.toList ++ st) σ ρ g τ Q) := aw_cv m98 d98_27 rfl m92 rfl rfl (by decide) en92 ok92 rfl ht hs
theorem d98_30 : decode cX10_readPlain 30 = .ok (.istore_n 2, 1) := by decide +kernel
theorem s98_30 {d : Nat} {st : List Value} {σ : am_I} {ρ : am_R} {g : am_J} {τ : am_T} {Q : am_Q} {x0 x2 x3 : Value} {v : Int32} {u : Int32} : AW d 98 30 [x0, .int u, x2, x3] (.int v :: st) σ ρ g τ Q = AW d 98 31 [x0, .int u, .int v, x3] (st) σ ρ g τ Q := aw_lc m98 d98_30 rfl rfl rfl
theorem d98_31 : decode cX10_readPlain 31 = .ok (.iload_n 2, 1) := by decide +kernel
theorem s98_31 {d : Nat} {st : List Value} {σ : am_I} {ρ : am_R} {g : am_J} {τ : am_T} {Q : am_Q} {x0 x1 x3 : Value} {v : Int32} : AW d 98 31 [x0, x1, .int v, x3] (st) σ ρ g τ Q = AW d 98 32 [x0, x1, .int v, x3] (.int v :: st) σ ρ g τ Q := aw_lc m98 d98_31 rfl rfl rfl
theorem d98_32 : decode cX10_readPlain 32 = .ok (.ifCond .ge 5, 3) := by decide +kernel
theorem s98_32 {d : Nat} {st : List Value} {σ : am_I} {ρ : am_R} {g : am_J} {τ : am_T} {Q : am_Q} {x0 x1 x2 x3 : Value} {v : Int32} : AW d 98 32 [x0, x1, x2, x3] (.int v :: st) σ ρ g τ Q = if 0 ≤ v then AW d 98 37 [x0, x1, x2, x3] (st) σ ρ g τ Q else AW d 98 35 [x0, x1, x2, x3] (st) σ ρ g τ Q := aw_br m98 d98_32 rfl rfl rfl
theorem d98_35 : decode cX10_readPlain 35 = .ok (.iconst 0, 1) := by decide +kernel
theorem s98_35 {d : Nat} {st : List Value} {σ : am_I} {ρ : am_R} {g : am_J} {τ : am_T} {Q : am_Q} {x0 x1 x2 x3 : Value} : AW d 98 35 [x0, x1, x2, x3] (st) σ ρ g τ Q = AW d 98 36 [x0, x1, x2, x3] (.int 0 :: st) σ ρ g τ Q := aw_lc m98 d98_35 rfl rfl rfl
theorem d98_36 : decode cX10_readPlain 36 = .ok (.ireturn, 1) := by decide +kernel
theorem s98_36 {d : Nat} {σ : am_I} {ρ : am_R} {g : am_J} {τ : am_T} {Q : am_Q} {x0 x1 x2 x3 : Value} {v : Int32} (hv : am_b01 v = true) : AW d 98 36 [x0, x1, x2, x3] ([.int v]) σ ρ g τ Q = Q (some (.int v)) σ ρ g τ := aw_rz m98 d98_36 rfl hv
theorem d98_37 : decode cX10_readPlain 37 = .ok (.aload_n 0, 1) := by decide +kernel
theorem s98_37 {d : Nat} {st : List Value} {σ : am_I} {ρ : am_R} {g : am_J} {τ : am_T} {Q : am_Q} {x1 x2 x3 : Value} {v : Nat} : AW d 98 37 [.ref v, x1, x2, x3] (st) σ ρ g τ Q = AW d 98 38 [.ref v, x1, x2, x3] (.ref v :: st) σ ρ g τ Q := aw_lc m98 d98_37 rfl rfl rfl
theorem d98_38 : decode cX10_readPlain 38 = .ok (.invokevirtual 47, 3) := by decide +kernel
theorem s98_38 {d : Nat} {st : List Value} {σ : am_I} {ρ : am_R} {g : am_J} {τ : am_T} {Q : am_Q} {x0 x1 x2 x3 : Value} {p0 : Nat} (ht : τ.1 p0 = 10) (hs : st.length ≤ 4) : AW (d + 1) 98 38 [x0, x1, x2, x3] (.ref p0 :: st) σ ρ g τ Q = AW d 80 0 [.ref p0, am_jk] [] σ ρ g τ (fun r9 σ ρ g τ => AW (d + 1) 98 41 [x0, x1, x2, x3] (r9.toList ++ st) σ ρ g τ Q) := aw_cv m98 d98_38 rfl m80 rfl rfl (by decide) en80 ok80 rfl ht hs
theorem d98_41 : decode cX10_readPlain 41 = .ok (.aload_n 0, 1) := by decide +kernel
theorem s98_41 {d : Nat} {st : List Value} {σ : am_I} {ρ : am_R} {g : am_J} {τ : am_T} {Q : am_Q} {x1 x2 x3 : Value} {v : Nat} : AW d 98 41 [.ref v, x1, x2, x3] (st) σ ρ g τ Q = AW d 98 42 [.ref v, x1, x2, x3] (.ref v :: st) σ ρ g τ Q := aw_lc m98 d98_41 rfl rfl rfl
theorem d98_42 : decode cX10_readPlain 42 = .ok (.bipush 60, 2) := by decide +kernel
theorem s98_42 {d : Nat} {st : List Value} {σ : am_I} {ρ : am_R} {g : am_J} {τ : am_T} {Q : am_Q} {x0 x1 x2 x3 : Value} : AW d 98 42 [x0, x1, x2, x3] (st) σ ρ g τ Q = AW d 98 44 [x0, x1, x2, x3] (.int 60 :: st) σ ρ g τ Q := aw_lc m98 d98_42 rfl rfl rfl
theorem d98_44 : decode cX10_readPlain 44 = .ok (.invokevirtual 100, 3) := by decide +kernel
theorem s98_44 {d : Nat} {st : List Value} {σ : am_I} {ρ : am_R} {g : am_J} {τ : am_T} {Q : am_Q} {x0 x1 x2 x3 : Value} {p0 : Nat} {p1 : Int32} (ht : τ.1 p0 = 10) (hs : st.length ≤ 4) : AW (d + 1) 98 44 [x0, x1, x2, x3] (.int p1 :: .ref p0 :: st) σ ρ g τ Q = AW d 84 0 [.ref p0, .int p1] [] σ ρ g τ (fun r9 σ ρ g τ => AW (d + 1) 98 47 [x0, x1, x2, x3] (r9.toList ++ st) σ ρ g τ Q) := aw_cv m98 d98_44 rfl m84 rfl rfl (by decide) en84 ok84 rfl ht hs
theorem d98_47 : decode cX10_readPlain 47 = .ok (.ifCond .ne 23, 3) := by decide +kernel
theorem s98_47 {d : Nat} {st : List Value} {σ : am_I} {ρ : am_R} {g : am_J} {τ : am_T} {Q : am_Q} {x0 x1 x2 x3 : Value} {v : Int32} : AW d 98 47 [x0, x1, x2, x3] (.int v :: st) σ ρ g τ Q = if ¬ v = 0 then AW d 98 70 [x0, x1, x2, x3] (st) σ ρ g τ Q else AW d 98 50 [x0, x1, x2, x3] (st) σ ρ g τ Q := aw_br m98 d98_47 rfl rfl rfl
theorem d98_50 : decode cX10_readPlain 50 = .ok (.aload_n 0, 1) := by decide +kernel
theorem s98_50 {d : Nat} {st : List Value} {σ : am_I} {ρ : am_R} {g : am_J} {τ : am_T} {Q : am_Q} {x1 x2 x3 : Value} {v : Nat} : AW d 98 50 [.ref v, x1, x2, x3] (st) σ ρ g τ Q = AW d 98 51 [.ref v, x1, x2, x3] (.ref v :: st) σ ρ g τ Q := aw_lc m98 d98_50 rfl rfl rfl
theorem d98_51 : decode cX10_readPlain 51 = .ok (.bipush 61, 2) := by decide +kernel
theorem s98_51 {d : Nat} {st : List Value} {σ : am_I} {ρ : am_R} {g : am_J} {τ : am_T} {Q : am_Q} {x0 x1 x2 x3 : Value} : AW d 98 51 [x0, x1, x2, x3] (st) σ ρ g τ Q = AW d 98 53 [x0, x1, x2, x3] (.int 61 :: st) σ ρ g τ Q := aw_lc m98 d98_51 rfl rfl rfl
theorem d98_53 : decode cX10_readPlain 53 = .ok (.invokevirtual 100, 3) := by decide +kernel
theorem s98_53 {d : Nat} {st : List Value} {σ : am_I} {ρ : am_R} {g : am_J} {τ : am_T} {Q : am_Q} {x0 x1 x2 x3 : Value} {p0 : Nat} {p1 : Int32} (ht : τ.1 p0 = 10) (hs : st.length ≤ 4) : AW (d + 1) 98 53 [x0, x1, x2, x3] (.int p1 :: .ref p0 :: st) σ ρ g τ Q = AW d 84 0 [.ref p0, .int p1] [] σ ρ g τ (fun r9 σ ρ g τ => AW (d + 1) 98 56 [x0, x1, x2, x3] (r9.toList ++ st) σ ρ g τ Q) := aw_cv m98 d98_53 rfl m84 rfl rfl (by decide) en84 ok84 rfl ht hs
theorem d98_56 : decode cX10_readPlain 56 = .ok (.ifCond .ne 14, 3) := by decide +kernel
theorem s98_56 {d : Nat} {st : List Value} {σ : am_I} {ρ : am_R} {g : am_J} {τ : am_T} {Q : am_Q} {x0 x1 x2 x3 : Value} {v : Int32} : AW d 98 56 [x0, x1, x2, x3] (.int v :: st) σ ρ g τ Q = if ¬ v = 0 then AW d 98 70 [x0, x1, x2, x3] (st) σ ρ g τ Q else AW d 98 59 [x0, x1, x2, x3] (st) σ ρ g τ Q := aw_br m98 d98_56 rfl rfl rfl
theorem d98_59 : decode cX10_readPlain 59 = .ok (.aload_n 0, 1) := by decide +kernel
theorem s98_59 {d : Nat} {st : List Value} {σ : am_I} {ρ : am_R} {g : am_J} {τ : am_T} {Q : am_Q} {x1 x2 x3 : Value} {v : Nat} : AW d 98 59 [.ref v, x1, x2, x3] (st) σ ρ g τ Q = AW d 98 60 [.ref v, x1, x2, x3] (.ref v :: st) σ ρ g τ Q := aw_lc m98 d98_59 rfl rfl rfl
theorem d98_60 : decode cX10_readPlain 60 = .ok (.bipush 62, 2) := by decide +kernel
theorem s98_60 {d : Nat} {st : List Value} {σ : am_I} {ρ : am_R} {g : am_J} {τ : am_T} {Q : am_Q} {x0 x1 x2 x3 : Value} : AW d 98 60 [x0, x1, x2, x3] (st) σ ρ g τ Q = AW d 98 62 [x0, x1, x2, x3] (.int 62 :: st) σ ρ g τ Q := aw_lc m98 d98_60 rfl rfl rfl
theorem d98_62 : decode cX10_readPlain 62 = .ok (.invokevirtual 100, 3) := by decide +kernel
theorem s98_62 {d : Nat} {st : List Value} {σ : am_I} {ρ : am_R} {g : am_J} {τ : am_T} {Q : am_Q} {x0 x1 x2 x3 : Value} {p0 : Nat} {p1 : Int32} (ht : τ.1 p0 = 10) (hs : st.length ≤ 4) : AW (d + 1) 98 62 [x0, x1, x2, x3] (.int p1 :: .ref p0 :: st) σ ρ g τ Q = AW d 84 0 [.ref p0, .int p1] [] σ ρ g τ (fun r9 σ ρ g τ => AW (d + 1) 98 65 [x0, x1, x2, x3] (r9.toList ++ st) σ ρ g τ Q) := aw_cv m98 d98_62 rfl m84 rfl rfl (by decide) en84 ok84 rfl ht hs
theorem d98_65 : decode cX10_readPlain 65 = .ok (.ifCond .ne 5, 3) := by decide +kernel
theorem s98_65 {d : Nat} {st : List Value} {σ : am_I} {ρ : am_R} {g : am_J} {τ : am_T} {Q : am_Q} {x0 x1 x2 x3 : Value} {v : Int32} : AW d 98 65 [x0, x1, x2, x3] (.int v :: st) σ ρ g τ Q = if ¬ v = 0 then AW d 98 70 [x0, x1, x2, x3] (st) σ ρ g τ Q else AW d 98 68 [x0, x1, x2, x3] (st) σ ρ g τ Q := aw_br m98 d98_65 rfl rfl rfl
theorem d98_68 : decode cX10_readPlain 68 = .ok (.iconst 0, 1) := by decide +kernel
theorem s98_68 {d : Nat} {st : List Value} {σ : am_I} {ρ : am_R} {g : am_J} {τ : am_T} {Q : am_Q} {x0 x1 x2 x3 : Value} : AW d 98 68 [x0, x1, x2, x3] (st) σ ρ g τ Q = AW d 98 69 [x0, x1, x2, x3] (.int 0 :: st) σ ρ g τ Q := aw_lc m98 d98_68 rfl rfl rfl
theorem d98_69 : decode cX10_readPlain 69 = .ok (.ireturn, 1) := by decide +kernel
theorem s98_69 {d : Nat} {σ : am_I} {ρ : am_R} {g : am_J} {τ : am_T} {Q : am_Q} {x0 x1 x2 x3 : Value} {v : Int32} (hv : am_b01 v = true) : AW d 98 69 [x0, x1, x2, x3] ([.int v]) σ ρ g τ Q = Q (some (.int v)) σ ρ g τ := aw_rz m98 d98_69 rfl hv
theorem d98_70 : decode cX10_readPlain 70 = .ok (.aload_n 0, 1) := by decide +kernel
theorem s98_70 {d : Nat} {st : List Value} {σ : am_I} {ρ : am_R} {g : am_J} {τ : am_T} {Q : am_Q} {x1 x2 x3 : Value} {v : Nat} : AW d 98 70 [.ref v, x1, x2, x3] (st) σ ρ g τ Q = AW d 98 71 [.ref v, x1, x2, x3] (.ref v :: st) σ ρ g τ Q := aw_lc m98 d98_70 rfl rfl rfl
theorem d98_71 : decode cX10_readPlain 71 = .ok (.getfield 28, 3) := by decide +kernel
theorem s98_71 {d : Nat} {st : List Value} {σ : am_I} {ρ : am_R} {g : am_J} {τ : am_T} {Q : am_Q} {x0 x1 x2 x3 : Value} {a : Nat} (ht : τ.1 a = 10) : AW d 98 71 [x0, x1, x2, x3] (.ref a :: st) σ ρ g τ Q = AW d 98 74 [x0, x1, x2, x3] (.int (σ a 5) :: st) σ ρ g τ Q := aw_gi m98 d98_71 rfl rfl rfl ht
theorem d98_74 : decode cX10_readPlain 74 = .ok (.istore_n 3, 1) := by decide +kernel
theorem s98_74 {d : Nat} {st : List Value} {σ : am_I} {ρ : am_R} {g : am_J} {τ : am_T} {Q : am_Q} {x0 x1 x3 : Value} {v : Int32} {u : Int32} : AW d 98 74 [x0, x1, .int u, x3] (.int v :: st) σ ρ g τ Q = AW d 98 75 [x0, x1, .int u, .int v] (st) σ ρ g τ Q := aw_lc m98 d98_74 rfl rfl rfl
theorem d98_75 : decode cX10_readPlain 75 = .ok (.aload_n 0, 1) := by decide +kernel
theorem s98_75 {d : Nat} {st : List Value} {σ : am_I} {ρ : am_R} {g : am_J} {τ : am_T} {Q : am_Q} {x1 x2 x3 : Value} {v : Nat} : AW d 98 75 [.ref v, x1, x2, x3] (st) σ ρ g τ Q = AW d 98 76 [.ref v, x1, x2, x3] (.ref v :: st) σ ρ g τ Q := aw_lc m98 d98_75 rfl rfl rfl
theorem d98_76 : decode cX10_readPlain 76 = .ok (.invokevirtual 47, 3) := by decide +kernel
theorem s98_76 {d : Nat} {st : List Value} {σ : am_I} {ρ : am_R} {g : am_J} {τ : am_T} {Q : am_Q} {x0 x1 x2 x3 : Value} {p0 : Nat} (ht : τ.1 p0 = 10) (hs : st.length ≤ 4) : AW (d + 1) 98 76 [x0, x1, x2, x3] (.ref p0 :: st) σ ρ g τ Q = AW d 80 0 [.ref p0, am_jk] [] σ ρ g τ (fun r9 σ ρ g τ => AW (d + 1) 98 79 [x0, x1, x2, x3] (r9.toList ++ st) σ ρ g τ Q) := aw_cv m98 d98_76 rfl m80 rfl rfl (by decide) en80 ok80 rfl ht hs
theorem d98_79 : decode cX10_readPlain 79 = .ok (.aload_n 0, 1) := by decide +kernel
theorem s98_79 {d : Nat} {st : List Value} {σ : am_I} {ρ : am_R} {g : am_J} {τ : am_T} {Q : am_Q} {x1 x2 x3 : Value} {v : Nat} : AW d 98 79 [.ref v, x1, x2, x3] (st) σ ρ g τ Q = AW d 98 80 [.ref v, x1, x2, x3] (.ref v :: st) σ ρ g τ Q := aw_lc m98 d98_79 rfl rfl rfl
theorem d98_80 : decode cX10_readPlain 80 = .ok (.sipush 999, 3) := by decide +kernel
theorem s98_80 {d : Nat} {st : List Value} {σ : am_I} {ρ : am_R} {g : am_J} {τ : am_T} {Q : am_Q} {x0 x1 x2 x3 : Value} : AW d 98 80 [x0, x1, x2, x3] (st) σ ρ g τ Q = AW d 98 83 [x0, x1, x2, x3] (.int 999 :: st) σ ρ g τ Q := aw_lc m98 d98_80 rfl rfl rfl
theorem d98_83 : decode cX10_readPlain 83 = .ok (.invokevirtual 81, 3) := by decide +kernel
theorem s98_83 {d : Nat} {st : List Value} {σ : am_I} {ρ : am_R} {g : am_J} {τ : am_T} {Q : am_Q} {x0 x1 x2 x3 : Value} {p0 : Nat} {p1 : Int32} (ht : τ.1 p0 = 10) (hs : st.length ≤ 4) : AW (d + 1) 98 83 [x0, x1, x2, x3] (.int p1 :: .ref p0 :: st) σ ρ g τ Q = AW d 85 0 [.ref p0, .int p1] [] σ ρ g τ (fun r9 σ ρ g τ => AW (d + 1) 98 86 [x0, x1, x2, x3] (r9.toList ++ st) σ ρ g τ Q) := aw_cv m98 d98_83 rfl m85 rfl rfl (by decide) en85 ok85 rfl ht hs
theorem d98_86 : decode cX10_readPlain 86 = .ok (.ifCond .ne 5, 3) := by decide +kernel
theorem s98_86 {d : Nat} {st : List Value} {σ : am_I} {ρ : am_R} {g : am_J} {τ : am_T} {Q : am_Q} {x0 x1 x2 x3 : Value} {v : Int32} : AW d 98 86 [x0, x1, x2, x3] (.int v :: st) σ ρ g τ Q = if ¬ v = 0 then AW d 98 91 [x0, x1, x2, x3] (st) σ ρ g τ Q else AW d 98 89 [x0, x1, x2, x3] (st) σ ρ g τ Q := aw_br m98 d98_86 rfl rfl rfl
theorem d98_89 : decode cX10_readPlain 89 = .ok (.iconst 0, 1) := by decide +kernel
theorem s98_89 {d : Nat} {st : List Value} {σ : am_I} {ρ : am_R} {g : am_J} {τ : am_T} {Q : am_Q} {x0 x1 x2 x3 : Value} : AW d 98 89 [x0, x1, x2, x3] (st) σ ρ g τ Q = AW d 98 90 [x0, x1, x2, x3] (.int 0 :: st) σ ρ g τ Q := aw_lc m98 d98_89 rfl rfl rfl
theorem d98_90 : decode cX10_readPlain 90 = .ok (.ireturn, 1) := by decide +kernel
theorem s98_90 {d : Nat} {σ : am_I} {ρ : am_R} {g : am_J} {τ : am_T} {Q : am_Q} {x0 x1 x2 x3 : Value} {v : Int32} (hv : am_b01 v = true) : AW d 98 90 [x0, x1, x2, x3] ([.int v]) σ ρ g τ Q = Q (some (.int v)) σ ρ g τ := aw_rz m98 d98_90 rfl hv
theorem d98_91 : decode cX10_readPlain 91 = .ok (.aload_n 0, 1) := by decide +kernel
theorem s98_91 {d : Nat} {st : List Value} {σ : am_I} {ρ : am_R} {g : am_J} {τ : am_T} {Q : am_Q} {x1 x2 x3 : Value} {v : Nat} : AW d 98 91 [.ref v, x1, x2, x3] (st) σ ρ g τ Q = AW d 98 92 [.ref v, x1, x2, x3] (.ref v :: st) σ ρ g τ Q := aw_lc m98 d98_91 rfl rfl rfl
theorem d98_92 : decode cX10_readPlain 92 = .ok (.iconst 0, 1) := by decide +kernel
theorem s98_92 {d : Nat} {st : List Value} {σ : am_I} {ρ : am_R} {g : am_J} {τ : am_T} {Q : am_Q} {x0 x1 x2 x3 : Value} : AW d 98 92 [x0, x1, x2, x3] (st) σ ρ g τ Q = AW d 98 93 [x0, x1, x2, x3] (.int 0 :: st) σ ρ g τ Q := aw_lc m98 d98_92 rfl rfl rfl
theorem d98_93 : decode cX10_readPlain 93 = .ok (.iload_n 2, 1) := by decide +kernel
theorem s98_93 {d : Nat} {st : List Value} {σ : am_I} {ρ : am_R} {g : am_J} {τ : am_T} {Q : am_Q} {x0 x1 x3 : Value} {v : Int32} : AW d 98 93 [x0, x1, .int v, x3] (st) σ ρ g τ Q = AW d 98 94 [x0, x1, .int v, x3] (.int v :: st) σ ρ g τ Q := aw_lc m98 d98_93 rfl rfl rfl
theorem d98_94 : decode cX10_readPlain 94 = .ok (.iload_n 3, 1) := by decide +kernel
theorem s98_94 {d : Nat} {st : List Value} {σ : am_I} {ρ : am_R} {g : am_J} {τ : am_T} {Q : am_Q} {x0 x1 x2 : Value} {v : Int32} : AW d 98 94 [x0, x1, x2, .int v] (st) σ ρ g τ Q = AW d 98 95 [x0, x1, x2, .int v] (.int v :: st) σ ρ g τ Q := aw_lc m98 d98_94 rfl rfl rfl
theorem d98_95 : decode cX10_readPlain 95 = .ok (.aload_n 0, 1) := by decide +kernel
theorem s98_95 {d : Nat} {st : List Value} {σ : am_I} {ρ : am_R} {g : am_J} {τ : am_T} {Q : am_Q} {x1 x2 x3 : Value} {v : Nat} : AW d 98 95 [.ref v, x1, x2, x3] (st) σ ρ g τ Q = AW d 98 96 [.ref v, x1, x2, x3] (.ref v :: st) σ ρ g τ Q := aw_lc m98 d98_95 rfl rfl rfl
theorem d98_96 : decode cX10_readPlain 96 = .ok (.getfield 28, 3) := by decide +kernel
theorem s98_96 {d : Nat} {st : List Value} {σ : am_I} {ρ : am_R} {g : am_J} {τ : am_T} {Q : am_Q} {x0 x1 x2 x3 : Value} {a : Nat} (ht : τ.1 a = 10) : AW d 98 96 [x0, x1, x2, x3] (.ref a :: st) σ ρ g τ Q = AW d 98 99 [x0, x1, x2, x3] (.int (σ a 5) :: st) σ ρ g τ Q := aw_gi m98 d98_96 rfl rfl rfl ht
theorem d98_99 : decode cX10_readPlain 99 = .ok (.invokestatic 168, 3) := by decide +kernel
theorem s98_99 {d : Nat} {st : List Value} {σ : am_I} {ρ : am_R} {g : am_J} {τ : am_T} {Q : am_Q} {x0 x1 x2 x3 : Value} {p0 : Int32} {p1 : Int32} {p2 : Int32} {p3 : Int32} (hs : st.length ≤ 4) : AW (d + 1) 98 99 [x0, x1, x2, x3] (.int p3 :: .int p2 :: .int p1 :: .int p0 :: st) σ ρ g τ Q = AW d 51 0 [.int p0, .int p1, .int p2, .int p3] [] σ ρ g τ (fun r9 σ ρ g τ => AW (d + 1) 98 102 [x0, x1, x2, x3] (r9.toList ++ st) σ ρ g τ Q) := aw_cs m98 d98_99 rfl (by simp only [List.length_cons]; omega) rfl rfl en51 ok51 rfl hs
theorem d98_102 : decode cX10_readPlain 102 = .ok (.invokevirtual 151, 3) := by decide +kernel
theorem s98_102 {d : Nat} {st : List Value} {σ : am_I} {ρ : am_R} {g : am_J} {τ : am_T} {Q : am_Q} {x0 x1 x2 x3 : Value} {p0 : Nat} {p1 : Int32} (ht : τ.1 p0 = 10) (hs : st.length ≤ 4) : AW (d + 1) 98 102 [x0, x1, x2, x3] (.int p1 :: .ref p0 :: st) σ ρ g τ Q = AW d 93 0 [.ref p0, .int p1] [] σ ρ g τ (fun r9 σ ρ g τ => AW (d + 1) 98 105 [x0, x1, x2, x3] (r9.toList ++ st) σ ρ g τ Q) := aw_cv m98 d98_102 rfl m93 rfl rfl (by decide) en93 ok93 rfl ht hs
theorem d98_105 : decode cX10_readPlain 105 = .ok (.aload_n 0, 1) := by decide +kernel
theorem s98_105 {d : Nat} {st : List Value} {σ : am_I} {ρ : am_R} {g : am_J} {τ : am_T} {Q : am_Q} {x1 x2 x3 : Value} {v : Nat} : AW d 98 105 [.ref v, x1, x2, x3] (st) σ ρ g τ Q = AW d 98 106 [.ref v, x1, x2, x3] (.ref v :: st) σ ρ g τ Q := aw_lc m98 d98_105 rfl rfl rfl
theorem d98_106 : decode cX10_readPlain 106 = .ok (.invokevirtual 47, 3) := by decide +kernel
theorem s98_106 {d : Nat} {st : List Value} {σ : am_I} {ρ : am_R} {g : am_J} {τ : am_T} {Q : am_Q} {x0 x1 x2 x3 : Value} {p0 : Nat} (ht : τ.1 p0 = 10) (hs : st.length ≤ 4) : AW (d + 1) 98 106 [x0, x1, x2, x3] (.ref p0 :: st) σ ρ g τ Q = AW d 80 0 [.ref p0, am_jk] [] σ ρ g τ (fun r9 σ ρ g τ => AW (d + 1) 98 109 [x0, x1, x2, x3] (r9.toList ++ st) σ ρ g τ Q) := aw_cv m98 d98_106 rfl m80 rfl rfl (by decide) en80 ok80 rfl ht hs
theorem d98_109 : decode cX10_readPlain 109 = .ok (.iconst 1, 1) := by decide +kernel
theorem s98_109 {d : Nat} {st : List Value} {σ : am_I} {ρ : am_R} {g : am_J} {τ : am_T} {Q : am_Q} {x0 x1 x2 x3 : Value} : AW d 98 109 [x0, x1, x2, x3] (st) σ ρ g τ Q = AW d 98 110 [x0, x1, x2, x3] (.int 1 :: st) σ ρ g τ Q := aw_lc m98 d98_109 rfl rfl rfl
theorem d98_110 : decode cX10_readPlain 110 = .ok (.ireturn, 1) := by decide +kernel
theorem s98_110 {d : Nat} {σ : am_I} {ρ : am_R} {g : am_J} {τ : am_T} {Q : am_Q} {x0 x1 x2 x3 : Value} {v : Int32} (hv : am_b01 v = true) : AW d 98 110 [x0, x1, x2, x3] ([.int v]) σ ρ g τ Q = Q (some (.int v)) σ ρ g τ := aw_rz m98 d98_110 rfl hv
