/-! step rows: methods 99 to 130 -/
theorem d99_0 : decode cX11_init 0 = .ok (.aload_n 0, 1) := by decide +kernel
theorem s99_0 {d : Nat} {st : List Value} {σ : am_I} {ρ : am_R} {g : am_J} {τ : am_T} {Q : am_Q} {v : Nat} : AW d 99 0 [.ref v] (st) σ ρ g τ Q = AW d 99 1 [.ref v] (.ref v :: st) σ ρ g τ Q := aw_lc m99 d99_0 rfl rfl rfl
theorem s99_0n {d : Nat} {st : List Value} {σ : am_I} {ρ : am_R} {g : am_J} {τ : am_T} {Q : am_Q} : AW d 99 0 [.null] (st) σ ρ g τ Q = AW d 99 1 [.null] (.null :: st) σ ρ g τ Q := aw_lc m99 d99_0 rfl rfl rfl
theorem d99_1 : decode cX11_init 1 = .ok (.invokespecial 1, 3) := by decide +kernel
theorem s99_1 {d : Nat} {st : List Value} {σ : am_I} {ρ : am_R} {g : am_J} {τ : am_T} {Q : am_Q} {x0 : Value} {a : Nat} (hs : st.length ≤ 4) : AW d 99 1 [x0] (.ref a :: st) σ ρ g τ Q = AW d 99 4 [x0] (st) σ ρ g τ Q := aw_oin m99 d99_1 rfl rfl hs
theorem d99_4 : decode cX11_init 4 = .ok (.aload_n 0, 1) := by decide +kernel
theorem s99_4 {d : Nat} {st : List Value} {σ : am_I} {ρ : am_R} {g : am_J} {τ : am_T} {Q : am_Q} {v : Nat} : AW d 99 4 [.ref v] (st) σ ρ g τ Q = AW d 99 5 [.ref v] (.ref v :: st) σ ρ g τ Q := aw_lc m99 d99_4 rfl rfl rfl
theorem s99_4n {d : Nat} {st : List Value} {σ : am_I} {ρ : am_R} {g : am_J} {τ : am_T} {Q : am_Q} : AW d 99 4 [.null] (st) σ ρ g τ Q = AW d 99 5 [.null] (.null :: st) σ ρ g τ Q := aw_lc m99 d99_4 rfl rfl rfl
theorem d99_5 : decode cX11_init 5 = .ok (.new 7, 3) := by decide +kernel
theorem s99_5 {d : Nat} {st : List Value} {σ : am_I} {ρ : am_R} {g : am_J} {τ : am_T} {Q : am_Q} {x0 : Value} : AW d 99 5 [x0] (st) σ ρ g τ Q = AW d 99 8 [x0] (.ref τ.2.2.1 :: st) (am_new 3 16 σ ρ g τ).1 (am_new 3 16 σ ρ g τ).2.1 (am_new 3 16 σ ρ g τ).2.2.1 (am_new 3 16 σ ρ g τ).2.2.2 Q := aw_new m99 d99_5 rfl rfl (by decide)
theorem d99_8 : decode cX11_init 8 = .ok (.dup, 1) := by decide +kernel
theorem s99_8 {d : Nat} {st : List Value} {σ : am_I} {ρ : am_R} {g : am_J} {τ : am_T} {Q : am_Q} {x0 : Value} {v : Int32} : AW d 99 8 [x0] (.int v :: st) σ ρ g τ Q = AW d 99 9 [x0] (.int v :: .int v :: st) σ ρ g τ Q := aw_lc m99 d99_8 rfl rfl rfl
theorem s99_8r {d : Nat} {st : List Value} {σ : am_I} {ρ : am_R} {g : am_J} {τ : am_T} {Q : am_Q} {x0 : Value} {v : Nat} : AW d 99 8 [x0] (.ref v :: st) σ ρ g τ Q = AW d 99 9 [x0] (.ref v :: .ref v :: st) σ ρ g τ Q := aw_lc m99 d99_8 rfl rfl rfl
theorem d99_9 : decode cX11_init 9 = .ok (.invokespecial 9, 3) := by decide +kernel
theorem s99_9 {d : Nat} {st : List Value} {σ : am_I} {ρ : am_R} {g : am_J} {τ : am_T} {Q : am_Q} {x0 : Value} {p0 : Nat} (hs : st.length ≤ 4) : AW (d + 1) 99 9 [x0] (.ref p0 :: st) σ ρ g τ Q = AW d 21 0 [.ref p0, am_jk] [] σ ρ g τ (fun r9 σ ρ g τ => AW (d + 1) 99 12 [x0] (r9.toList ++ st) σ ρ g τ Q) := aw_ci m99 d99_9 rfl rfl en21 ok21 rfl hs
theorem d99_12 : decode cX11_init 12 = .ok (.putfield 10, 3) := by decide +kernel
theorem s99_12 {d : Nat} {st : List Value} {σ : am_I} {ρ : am_R} {g : am_J} {τ : am_T} {Q : am_Q} {x0 : Value} {a b : Nat} (ht : τ.1 a = 11) : AW d 99 12 [x0] (.ref b :: .ref a :: st) σ ρ g τ Q = AW d 99 15 [x0] (st) σ (am_u ρ a 0 (some b)) g τ Q := aw_pr m99 d99_12 rfl rfl (Or.inr ⟨rfl, rfl⟩) rfl ht
theorem s99_12n {d : Nat} {st : List Value} {σ : am_I} {ρ : am_R} {g : am_J} {τ : am_T} {Q : am_Q} {x0 : Value} {a : Nat} (ht : τ.1 a = 11) : AW d 99 12 [x0] (.null :: .ref a :: st) σ ρ g τ Q = AW d 99 15 [x0] (st) σ (am_u ρ a 0 none) g τ Q := aw_pn m99 d99_12 rfl rfl (Or.inr ⟨rfl, rfl⟩) rfl ht
theorem d99_15 : decode cX11_init 15 = .ok (.aload_n 0, 1) := by decide +kernel
theorem s99_15 {d : Nat} {st : List Value} {σ : am_I} {ρ : am_R} {g : am_J} {τ : am_T} {Q : am_Q} {v : Nat} : AW d 99 15 [.ref v] (st) σ ρ g τ Q = AW d 99 16 [.ref v] (.ref v :: st) σ ρ g τ Q := aw_lc m99 d99_15 rfl rfl rfl
theorem s99_15n {d : Nat} {st : List Value} {σ : am_I} {ρ : am_R} {g : am_J} {τ : am_T} {Q : am_Q} : AW d 99 15 [.null] (st) σ ρ g τ Q = AW d 99 16 [.null] (.null :: st) σ ρ g τ Q := aw_lc m99 d99_15 rfl rfl rfl
theorem d99_16 : decode cX11_init 16 = .ok (.new 7, 3) := by decide +kernel
theorem s99_16 {d : Nat} {st : List Value} {σ : am_I} {ρ : am_R} {g : am_J} {τ : am_T} {Q : am_Q} {x0 : Value} : AW d 99 16 [x0] (st) σ ρ g τ Q = AW d 99 19 [x0] (.ref τ.2.2.1 :: st) (am_new 3 16 σ ρ g τ).1 (am_new 3 16 σ ρ g τ).2.1 (am_new 3 16 σ ρ g τ).2.2.1 (am_new 3 16 σ ρ g τ).2.2.2 Q := aw_new m99 d99_16 rfl rfl (by decide)
theorem d99_19 : decode cX11_init 19 = .ok (.dup, 1) := by decide +kernel
theorem s99_19 {d : Nat} {st : List Value} {σ : am_I} {ρ : am_R} {g : am_J} {τ : am_T} {Q : am_Q} {x0 : Value} {v : Int32} : AW d 99 19 [x0] (.int v :: st) σ ρ g τ Q = AW d 99 20 [x0] (.int v :: .int v :: st) σ ρ g τ Q := aw_lc m99 d99_19 rfl rfl rfl
theorem s99_19r {d : Nat} {st : List Value} {σ : am_I} {ρ : am_R} {g : am_J} {τ : am_T} {Q : am_Q} {x0 : Value} {v : Nat} : AW d 99 19 [x0] (.ref v :: st) σ ρ g τ Q = AW d 99 20 [x0] (.ref v :: .ref v :: st) σ ρ g τ Q := aw_lc m99 d99_19 rfl rfl rfl
theorem d99_20 : decode cX11_init 20 = .ok (.invokespecial 9, 3) := by decide +kernel
theorem s99_20 {d : Nat} {st : List Value} {σ : am_I} {ρ : am_R} {g : am_J} {τ : am_T} {Q : am_Q} {x0 : Value} {p0 : Nat} (hs : st.length ≤ 4) : AW (d + 1) 99 20 [x0] (.ref p0 :: st) σ ρ g τ Q = AW d 21 0 [.ref p0, am_jk] [] σ ρ g τ (fun r9 σ ρ g τ => AW (d + 1) 99 23 [x0] (r9.toList ++ st) σ ρ g τ Q) := aw_ci m99 d99_20 rfl rfl en21 ok21 rfl hs
theorem d99_23 : decode cX11_init 23 = .ok (.putfield 16, 3) := by decide +kernel
theorem s99_23 {d : Nat} {st : List Value} {σ : am_I} {ρ : am_R} {g : am_J} {τ : am_T} {Q : am_Q} {x0 : Value} {a b : Nat} (ht : τ.1 a = 11) : AW d 99 23 [x0] (.ref b :: .ref a :: st) σ ρ g τ Q = AW d 99 26 [x0] (st) σ (am_u ρ a 1 (some b)) g τ Q := aw_pr m99 d99_23 rfl rfl (Or.inr ⟨rfl, rfl⟩) rfl ht
theorem s99_23n {d : Nat} {st : List Value} {σ : am_I} {ρ : am_R} {g : am_J} {τ : am_T} {Q : am_Q} {x0 : Value} {a : Nat} (ht : τ.1 a = 11) : AW d 99 23 [x0] (.null :: .ref a :: st) σ ρ g τ Q = AW d 99 26 [x0] (st) σ (am_u ρ a 1 none) g τ Q := aw_pn m99 d99_23 rfl rfl (Or.inr ⟨rfl, rfl⟩) rfl ht
theorem d99_26 : decode cX11_init 26 = .ok (.aload_n 0, 1) := by decide +kernel
theorem s99_26 {d : Nat} {st : List Value} {σ : am_I} {ρ : am_R} {g : am_J} {τ : am_T} {Q : am_Q} {v : Nat} : AW d 99 26 [.ref v] (st) σ ρ g τ Q = AW d 99 27 [.ref v] (.ref v :: st) σ ρ g τ Q := aw_lc m99 d99_26 rfl rfl rfl
theorem s99_26n {d : Nat} {st : List Value} {σ : am_I} {ρ : am_R} {g : am_J} {τ : am_T} {Q : am_Q} : AW d 99 26 [.null] (st) σ ρ g τ Q = AW d 99 27 [.null] (.null :: st) σ ρ g τ Q := aw_lc m99 d99_26 rfl rfl rfl
theorem d99_27 : decode cX11_init 27 = .ok (.iconst 0, 1) := by decide +kernel
theorem s99_27 {d : Nat} {st : List Value} {σ : am_I} {ρ : am_R} {g : am_J} {τ : am_T} {Q : am_Q} {x0 : Value} : AW d 99 27 [x0] (st) σ ρ g τ Q = AW d 99 28 [x0] (.int 0 :: st) σ ρ g τ Q := aw_lc m99 d99_27 rfl rfl rfl
theorem d99_28 : decode cX11_init 28 = .ok (.putfield 19, 3) := by decide +kernel
theorem s99_28 {d : Nat} {st : List Value} {σ : am_I} {ρ : am_R} {g : am_J} {τ : am_T} {Q : am_Q} {x0 : Value} {a : Nat} {v : Int32} (ht : τ.1 a = 11) (hv : am_b01 v = true) : AW d 99 28 [x0] (.int v :: .ref a :: st) σ ρ g τ Q = AW d 99 31 [x0] (st) (am_u σ a 2 v) ρ g τ Q := aw_pz m99 d99_28 rfl rfl (Or.inl rfl) rfl ht hv
theorem d99_31 : decode cX11_init 31 = .ok (.aload_n 0, 1) := by decide +kernel
theorem s99_31 {d : Nat} {st : List Value} {σ : am_I} {ρ : am_R} {g : am_J} {τ : am_T} {Q : am_Q} {v : Nat} : AW d 99 31 [.ref v] (st) σ ρ g τ Q = AW d 99 32 [.ref v] (.ref v :: st) σ ρ g τ Q := aw_lc m99 d99_31 rfl rfl rfl
theorem s99_31n {d : Nat} {st : List Value} {σ : am_I} {ρ : am_R} {g : am_J} {τ : am_T} {Q : am_Q} : AW d 99 31 [.null] (st) σ ρ g τ Q = AW d 99 32 [.null] (.null :: st) σ ρ g τ Q := aw_lc m99 d99_31 rfl rfl rfl
theorem d99_32 : decode cX11_init 32 = .ok (.new 23, 3) := by decide +kernel
theorem s99_32 {d : Nat} {st : List Value} {σ : am_I} {ρ : am_R} {g : am_J} {τ : am_T} {Q : am_Q} {x0 : Value} : AW d 99 32 [x0] (st) σ ρ g τ Q = AW d 99 35 [x0] (.ref τ.2.2.1 :: st) (am_new 10 10 σ ρ g τ).1 (am_new 10 10 σ ρ g τ).2.1 (am_new 10 10 σ ρ g τ).2.2.1 (am_new 10 10 σ ρ g τ).2.2.2 Q := aw_new m99 d99_32 rfl rfl (by decide)
theorem d99_35 : decode cX11_init 35 = .ok (.dup, 1) := by decide +kernel
theorem s99_35 {d : Nat} {st : List Value} {σ : am_I} {ρ : am_R} {g : am_J} {τ : am_T} {Q : am_Q} {x0 : Value} {v : Int32} : AW d 99 35 [x0] (.int v :: st) σ ρ g τ Q = AW d 99 36 [x0] (.int v :: .int v :: st) σ ρ g τ Q := aw_lc m99 d99_35 rfl rfl rfl
theorem s99_35r {d : Nat} {st : List Value} {σ : am_I} {ρ : am_R} {g : am_J} {τ : am_T} {Q : am_Q} {x0 : Value} {v : Nat} : AW d 99 35 [x0] (.ref v :: st) σ ρ g τ Q = AW d 99 36 [x0] (.ref v :: .ref v :: st) σ ρ g τ Q := aw_lc m99 d99_35 rfl rfl rfl
theorem d99_36 : decode cX11_init 36 = .ok (.invokespecial 25, 3) := by decide +kernel
theorem s99_36 {d : Nat} {st : List Value} {σ : am_I} {ρ : am_R} {g : am_J} {τ : am_T} {Q : am_Q} {x0 : Value} {p0 : Nat} (hs : st.length ≤ 4) : AW (d + 1) 99 36 [x0] (.ref p0 :: st) σ ρ g τ Q = AW d 76 0 [.ref p0] [] σ ρ g τ (fun r9 σ ρ g τ => AW (d + 1) 99 39 [x0] (r9.toList ++ st) σ ρ g τ Q) := aw_ci m99 d99_36 rfl rfl en76 ok76 rfl hs
theorem d99_39 : decode cX11_init 39 = .ok (.putfield 26, 3) := by decide +kernel
theorem s99_39 {d : Nat} {st : List Value} {σ : am_I} {ρ : am_R} {g : am_J} {τ : am_T} {Q : am_Q} {x0 : Value} {a b : Nat} (ht : τ.1 a = 11) : AW d 99 39 [x0] (.ref b :: .ref a :: st) σ ρ g τ Q = AW d 99 42 [x0] (st) σ (am_u ρ a 3 (some b)) g τ Q := aw_pr m99 d99_39 rfl rfl (Or.inr ⟨rfl, rfl⟩) rfl ht
theorem s99_39n {d : Nat} {st : List Value} {σ : am_I} {ρ : am_R} {g : am_J} {τ : am_T} {Q : am_Q} {x0 : Value} {a : Nat} (ht : τ.1 a = 11) : AW d 99 39 [x0] (.null :: .ref a :: st) σ ρ g τ Q = AW d 99 42 [x0] (st) σ (am_u ρ a 3 none) g τ Q := aw_pn m99 d99_39 rfl rfl (Or.inr ⟨rfl, rfl⟩) rfl ht
theorem d99_42 : decode cX11_init 42 = .ok (.aload_n 0, 1) := by decide +kernel
theorem s99_42 {d : Nat} {st : List Value} {σ : am_I} {ρ : am_R} {g : am_J} {τ : am_T} {Q : am_Q} {v : Nat} : AW d 99 42 [.ref v] (st) σ ρ g τ Q = AW d 99 43 [.ref v] (.ref v :: st) σ ρ g τ Q := aw_lc m99 d99_42 rfl rfl rfl
theorem s99_42n {d : Nat} {st : List Value} {σ : am_I} {ρ : am_R} {g : am_J} {τ : am_T} {Q : am_Q} : AW d 99 42 [.null] (st) σ ρ g τ Q = AW d 99 43 [.null] (.null :: st) σ ρ g τ Q := aw_lc m99 d99_42 rfl rfl rfl
theorem d99_43 : decode cX11_init 43 = .ok (.new 30, 3) := by decide +kernel
theorem s99_43 {d : Nat} {st : List Value} {σ : am_I} {ρ : am_R} {g : am_J} {τ : am_T} {Q : am_Q} {x0 : Value} : AW d 99 43 [x0] (st) σ ρ g τ Q = AW d 99 46 [x0] (.ref τ.2.2.1 :: st) (am_new 8 6 σ ρ g τ).1 (am_new 8 6 σ ρ g τ).2.1 (am_new 8 6 σ ρ g τ).2.2.1 (am_new 8 6 σ ρ g τ).2.2.2 Q := aw_new m99 d99_43 rfl rfl (by decide)
theorem d99_46 : decode cX11_init 46 = .ok (.dup, 1) := by decide +kernel
theorem s99_46 {d : Nat} {st : List Value} {σ : am_I} {ρ : am_R} {g : am_J} {τ : am_T} {Q : am_Q} {x0 : Value} {v : Int32} : AW d 99 46 [x0] (.int v :: st) σ ρ g τ Q = AW d 99 47 [x0] (.int v :: .int v :: st) σ ρ g τ Q := aw_lc m99 d99_46 rfl rfl rfl
theorem s99_46r {d : Nat} {st : List Value} {σ : am_I} {ρ : am_R} {g : am_J} {τ : am_T} {Q : am_Q} {x0 : Value} {v : Nat} : AW d 99 46 [x0] (.ref v :: st) σ ρ g τ Q = AW d 99 47 [x0] (.ref v :: .ref v :: st) σ ρ g τ Q := aw_lc m99 d99_46 rfl rfl rfl
theorem d99_47 : decode cX11_init 47 = .ok (.invokespecial 32, 3) := by decide +kernel
theorem s99_47 {d : Nat} {st : List Value} {σ : am_I} {ρ : am_R} {g : am_J} {τ : am_T} {Q : am_Q} {x0 : Value} {p0 : Nat} (hs : st.length ≤ 4) : AW (d + 1) 99 47 [x0] (.ref p0 :: st) σ ρ g τ Q = AW d 63 0 [.ref p0] [] σ ρ g τ (fun r9 σ ρ g τ => AW (d + 1) 99 50 [x0] (r9.toList ++ st) σ ρ g τ Q) := aw_ci m99 d99_47 rfl rfl en63 ok63 rfl hs
theorem d99_50 : decode cX11_init 50 = .ok (.putfield 33, 3) := by decide +kernel
theorem s99_50 {d : Nat} {st : List Value} {σ : am_I} {ρ : am_R} {g : am_J} {τ : am_T} {Q : am_Q} {x0 : Value} {a b : Nat} (ht : τ.1 a = 11) : AW d 99 50 [x0] (.ref b :: .ref a :: st) σ ρ g τ Q = AW d 99 53 [x0] (st) σ (am_u ρ a 4 (some b)) g τ Q := aw_pr m99 d99_50 rfl rfl (Or.inr ⟨rfl, rfl⟩) rfl ht
theorem s99_50n {d : Nat} {st : List Value} {σ : am_I} {ρ : am_R} {g : am_J} {τ : am_T} {Q : am_Q} {x0 : Value} {a : Nat} (ht : τ.1 a = 11) : AW d 99 50 [x0] (.null :: .ref a :: st) σ ρ g τ Q = AW d 99 53 [x0] (st) σ (am_u ρ a 4 none) g τ Q := aw_pn m99 d99_50 rfl rfl (Or.inr ⟨rfl, rfl⟩) rfl ht
theorem d99_53 : decode cX11_init 53 = .ok (.aload_n 0, 1) := by decide +kernel
theorem s99_53 {d : Nat} {st : List Value} {σ : am_I} {ρ : am_R} {g : am_J} {τ : am_T} {Q : am_Q} {v : Nat} : AW d 99 53 [.ref v] (st) σ ρ g τ Q = AW d 99 54 [.ref v] (.ref v :: st) σ ρ g τ Q := aw_lc m99 d99_53 rfl rfl rfl
theorem s99_53n {d : Nat} {st : List Value} {σ : am_I} {ρ : am_R} {g : am_J} {τ : am_T} {Q : am_Q} : AW d 99 53 [.null] (st) σ ρ g τ Q = AW d 99 54 [.null] (.null :: st) σ ρ g τ Q := aw_lc m99 d99_53 rfl rfl rfl
theorem d99_54 : decode cX11_init 54 = .ok (.new 37, 3) := by decide +kernel
theorem s99_54 {d : Nat} {st : List Value} {σ : am_I} {ρ : am_R} {g : am_J} {τ : am_T} {Q : am_Q} {x0 : Value} : AW d 99 54 [x0] (st) σ ρ g τ Q = AW d 99 57 [x0] (.ref τ.2.2.1 :: st) (am_new 6 4 σ ρ g τ).1 (am_new 6 4 σ ρ g τ).2.1 (am_new 6 4 σ ρ g τ).2.2.1 (am_new 6 4 σ ρ g τ).2.2.2 Q := aw_new m99 d99_54 rfl rfl (by decide)
theorem d99_57 : decode cX11_init 57 = .ok (.dup, 1) := by decide +kernel
theorem s99_57 {d : Nat} {st : List Value} {σ : am_I} {ρ : am_R} {g : am_J} {τ : am_T} {Q : am_Q} {x0 : Value} {v : Int32} : AW d 99 57 [x0] (.int v :: st) σ ρ g τ Q = AW d 99 58 [x0] (.int v :: .int v :: st) σ ρ g τ Q := aw_lc m99 d99_57 rfl rfl rfl
theorem s99_57r {d : Nat} {st : List Value} {σ : am_I} {ρ : am_R} {g : am_J} {τ : am_T} {Q : am_Q} {x0 : Value} {v : Nat} : AW d 99 57 [x0] (.ref v :: st) σ ρ g τ Q = AW d 99 58 [x0] (.ref v :: .ref v :: st) σ ρ g τ Q := aw_lc m99 d99_57 rfl rfl rfl
theorem d99_58 : decode cX11_init 58 = .ok (.invokespecial 39, 3) := by decide +kernel
theorem s99_58 {d : Nat} {st : List Value} {σ : am_I} {ρ : am_R} {g : am_J} {τ : am_T} {Q : am_Q} {x0 : Value} {p0 : Nat} (hs : st.length ≤ 4) : AW (d + 1) 99 58 [x0] (.ref p0 :: st) σ ρ g τ Q = AW d 54 0 [.ref p0] [] σ ρ g τ (fun r9 σ ρ g τ => AW (d + 1) 99 61 [x0] (r9.toList ++ st) σ ρ g τ Q) := aw_ci m99 d99_58 rfl rfl en54 ok54 rfl hs
theorem d99_61 : decode cX11_init 61 = .ok (.putfield 40, 3) := by decide +kernel
theorem s99_61 {d : Nat} {st : List Value} {σ : am_I} {ρ : am_R} {g : am_J} {τ : am_T} {Q : am_Q} {x0 : Value} {a b : Nat} (ht : τ.1 a = 11) : AW d 99 61 [x0] (.ref b :: .ref a :: st) σ ρ g τ Q = AW d 99 64 [x0] (st) σ (am_u ρ a 5 (some b)) g τ Q := aw_pr m99 d99_61 rfl rfl (Or.inr ⟨rfl, rfl⟩) rfl ht
theorem s99_61n {d : Nat} {st : List Value} {σ : am_I} {ρ : am_R} {g : am_J} {τ : am_T} {Q : am_Q} {x0 : Value} {a : Nat} (ht : τ.1 a = 11) : AW d 99 61 [x0] (.null :: .ref a :: st) σ ρ g τ Q = AW d 99 64 [x0] (st) σ (am_u ρ a 5 none) g τ Q := aw_pn m99 d99_61 rfl rfl (Or.inr ⟨rfl, rfl⟩) rfl ht
theorem d99_64 : decode cX11_init 64 = .ok (.aload_n 0, 1) := by decide +kernel
theorem s99_64 {d : Nat} {st : List Value} {σ : am_I} {ρ : am_R} {g : am_J} {τ : am_T} {Q : am_Q} {v : Nat} : AW d 99 64 [.ref v] (st) σ ρ g τ Q = AW d 99 65 [.ref v] (.ref v :: st) σ ρ g τ Q := aw_lc m99 d99_64 rfl rfl rfl
theorem s99_64n {d : Nat} {st : List Value} {σ : am_I} {ρ : am_R} {g : am_J} {τ : am_T} {Q : am_Q} : AW d 99 64 [.null] (st) σ ρ g τ Q = AW d 99 65 [.null] (.null :: st) σ ρ g τ Q := aw_lc m99 d99_64 rfl rfl rfl
theorem d99_65 : decode cX11_init 65 = .ok (.new 44, 3) := by decide +kernel
theorem s99_65 {d : Nat} {st : List Value} {σ : am_I} {ρ : am_R} {g : am_J} {τ : am_T} {Q : am_Q} {x0 : Value} : AW d 99 65 [x0] (st) σ ρ g τ Q = AW d 99 68 [x0] (.ref τ.2.2.1 :: st) (am_new 4 4 σ ρ g τ).1 (am_new 4 4 σ ρ g τ).2.1 (am_new 4 4 σ ρ g τ).2.2.1 (am_new 4 4 σ ρ g τ).2.2.2 Q := aw_new m99 d99_65 rfl rfl (by decide)
theorem d99_68 : decode cX11_init 68 = .ok (.dup, 1) := by decide +kernel
theorem s99_68 {d : Nat} {st : List Value} {σ : am_I} {ρ : am_R} {g : am_J} {τ : am_T} {Q : am_Q} {x0 : Value} {v : Int32} : AW d 99 68 [x0] (.int v :: st) σ ρ g τ Q = AW d 99 69 [x0] (.int v :: .int v :: st) σ ρ g τ Q := aw_lc m99 d99_68 rfl rfl rfl
theorem s99_68r {d : Nat} {st : List Value} {σ : am_I} {ρ : am_R} {g : am_J} {τ : am_T} {Q : am_Q} {x0 : Value} {v : Nat} : AW d 99 68 [x0] (.ref v :: st) σ ρ g τ Q = AW d 99 69 [x0] (.ref v :: .ref v :: st) σ ρ g τ Q := aw_lc m99 d99_68 rfl rfl rfl
theorem d99_69 : decode cX11_init 69 = .ok (.bipush 8, 2) := by decide +kernel
theorem s99_69 {d : Nat} {st : List Value} {σ : am_I} {ρ : am_R} {g : am_J} {τ : am_T} {Q : am_Q} {x0 : Value} : AW d 99 69 [x0] (st) σ ρ g τ Q = AW d 99 71 [x0] (.int 8 :: st) σ ρ g τ Q := aw_lc m99 d99_69 rfl rfl rfl
theorem d99_71 : decode cX11_init 71 = .ok (.iconst 2, 1) := by decide +kernel
theorem s99_71 {d : Nat} {st : List Value} {σ : am_I} {ρ : am_R} {g : am_J} {τ : am_T} {Q : am_Q} {x0 : Value} : AW d 99 71 [x0] (st) σ ρ g τ Q = AW d 99 72 [x0] (.int 2 :: st) σ ρ g τ Q := aw_lc m99 d99_71 rfl rfl rfl
theorem d99_72 : decode cX11_init 72 = .ok (.invokespecial 46, 3) := by decide +kernel
theorem s99_72 {d : Nat} {st : List Value} {σ : am_I} {ρ : am_R} {g : am_J} {τ : am_T} {Q : am_Q} {x0 : Value} {p0 : Nat} {p1 : Int32} {p2 : Int32} (hs : st.length ≤ 4) : AW (d + 1) 99 72 [x0] (.int p2 :: .int p1 :: .ref p0 :: st) σ ρ g τ Q = AW d 42 0 [.ref p0, .int p1, .int p2] [] σ ρ g τ (fun r9 σ ρ g τ => AW (d + 1) 99 75 [x0] (r9.toList ++ st) σ ρ g τ Q) := aw_ci m99 d99_72 rfl rfl en42 ok42 rfl hs
theorem d99_75 : decode cX11_init 75 = .ok (.putfield 49, 3) := by decide +kernel
theorem s99_75 {d : Nat} {st : List Value} {σ : am_I} {ρ : am_R} {g : am_J} {τ : am_T} {Q : am_Q} {x0 : Value} {a b : Nat} (ht : τ.1 a = 11) : AW d 99 75 [x0] (.ref b :: .ref a :: st) σ ρ g τ Q = AW d 99 78 [x0] (st) σ (am_u ρ a 6 (some b)) g τ Q := aw_pr m99 d99_75 rfl rfl (Or.inr ⟨rfl, rfl⟩) rfl ht
theorem s99_75n {d : Nat} {st : List Value} {σ : am_I} {ρ : am_R} {g : am_J} {τ : am_T} {Q : am_Q} {x0 : Value} {a : Nat} (ht : τ.1 a = 11) : AW d 99 75 [x0] (.null :: .ref a :: st) σ ρ g τ Q = AW d 99 78 [x0] (st) σ (am_u ρ a 6 none) g τ Q := aw_pn m99 d99_75 rfl rfl (Or.inr ⟨rfl, rfl⟩) rfl ht
theorem d99_78 : decode cX11_init 78 = .ok (.aload_n 0, 1) := by decide +kernel
theorem s99_78 {d : Nat} {st : List Value} {σ : am_I} {ρ : am_R} {g : am_J} {τ : am_T} {Q : am_Q} {v : Nat} : AW d 99 78 [.ref v] (st) σ ρ g τ Q = AW d 99 79 [.ref v] (.ref v :: st) σ ρ g τ Q := aw_lc m99 d99_78 rfl rfl rfl
theorem s99_78n {d : Nat} {st : List Value} {σ : am_I} {ρ : am_R} {g : am_J} {τ : am_T} {Q : am_Q} : AW d 99 78 [.null] (st) σ ρ g τ Q = AW d 99 79 [.null] (.null :: st) σ ρ g τ Q := aw_lc m99 d99_78 rfl rfl rfl
theorem d99_79 : decode cX11_init 79 = .ok (.new 53, 3) := by decide +kernel
theorem s99_79 {d : Nat} {st : List Value} {σ : am_I} {ρ : am_R} {g : am_J} {τ : am_T} {Q : am_Q} {x0 : Value} : AW d 99 79 [x0] (st) σ ρ g τ Q = AW d 99 82 [x0] (.ref τ.2.2.1 :: st) (am_new 2 6 σ ρ g τ).1 (am_new 2 6 σ ρ g τ).2.1 (am_new 2 6 σ ρ g τ).2.2.1 (am_new 2 6 σ ρ g τ).2.2.2 Q := aw_new m99 d99_79 rfl rfl (by decide)
theorem d99_82 : decode cX11_init 82 = .ok (.dup, 1) := by decide +kernel
theorem s99_82 {d : Nat} {st : List Value} {σ : am_I} {ρ : am_R} {g : am_J} {τ : am_T} {Q : am_Q} {x0 : Value} {v : Int32} : AW d 99 82 [x0] (.int v :: st) σ ρ g τ Q = AW d 99 83 [x0] (.int v :: .int v :: st) σ ρ g τ Q := aw_lc m99 d99_82 rfl rfl rfl
theorem s99_82r {d : Nat} {st : List Value} {σ : am_I} {ρ : am_R} {g : am_J} {τ : am_T} {Q : am_Q} {x0 : Value} {v : Nat} : AW d 99 82 [x0] (.ref v :: st) σ ρ g τ Q = AW d 99 83 [x0] (.ref v :: .ref v :: st) σ ρ g τ Q := aw_lc m99 d99_82 rfl rfl rfl
theorem d99_83 : decode cX11_init 83 = .ok (.invokespecial 55, 3) := by decide +kernel
theorem s99_83 {d : Nat} {st : List Value} {σ : am_I} {ρ : am_R} {g : am_J} {τ : am_T} {Q : am_Q} {x0 : Value} {p0 : Nat} (hs : st.length ≤ 4) : AW (d + 1) 99 83 [x0] (.ref p0 :: st) σ ρ g τ Q = AW d 14 0 [.ref p0] [] σ ρ g τ (fun r9 σ ρ g τ => AW (d + 1) 99 86 [x0] (r9.toList ++ st) σ ρ g τ Q) := aw_ci m99 d99_83 rfl rfl en14 ok14 rfl hs
theorem d99_86 : decode cX11_init 86 = .ok (.putfield 56, 3) := by decide +kernel
theorem s99_86 {d : Nat} {st : List Value} {σ : am_I} {ρ : am_R} {g : am_J} {τ : am_T} {Q : am_Q} {x0 : Value} {a b : Nat} (ht : τ.1 a = 11) : AW d 99 86 [x0] (.ref b :: .ref a :: st) σ ρ g τ Q = AW d 99 89 [x0] (st) σ (am_u ρ a 7 (some b)) g τ Q := aw_pr m99 d99_86 rfl rfl (Or.inr ⟨rfl, rfl⟩) rfl ht
theorem s99_86n {d : Nat} {st : List Value} {σ : am_I} {ρ : am_R} {g : am_J} {τ : am_T} {Q : am_Q} {x0 : Value} {a : Nat} (ht : τ.1 a = 11) : AW d 99 86 [x0] (.null :: .ref a :: st) σ ρ g τ Q = AW d 99 89 [x0] (st) σ (am_u ρ a 7 none) g τ Q := aw_pn m99 d99_86 rfl rfl (Or.inr ⟨rfl, rfl⟩) rfl ht
theorem d99_89 : decode cX11_init 89 = .ok (.aload_n 0, 1) := by decide +kernel
theorem s99_89 {d : Nat} {st : List Value} {σ : am_I} {ρ : am_R} {g : am_J} {τ : am_T} {Q : am_Q} {v : Nat} : AW d 99 89 [.ref v] (st) σ ρ g τ Q = AW d 99 90 [.ref v] (.ref v :: st) σ ρ g τ Q := aw_lc m99 d99_89 rfl rfl rfl
theorem s99_89n {d : Nat} {st : List Value} {σ : am_I} {ρ : am_R} {g : am_J} {τ : am_T} {Q : am_Q} : AW d 99 89 [.null] (st) σ ρ g τ Q = AW d 99 90 [.null] (.null :: st) σ ρ g τ Q := aw_lc m99 d99_89 rfl rfl rfl
theorem d99_90 : decode cX11_init 90 = .ok (.new 60, 3) := by decide +kernel
theorem s99_90 {d : Nat} {st : List Value} {σ : am_I} {ρ : am_R} {g : am_J} {τ : am_T} {Q : am_Q} {x0 : Value} : AW d 99 90 [x0] (st) σ ρ g τ Q = AW d 99 93 [x0] (.ref τ.2.2.1 :: st) (am_new 0 7 σ ρ g τ).1 (am_new 0 7 σ ρ g τ).2.1 (am_new 0 7 σ ρ g τ).2.2.1 (am_new 0 7 σ ρ g τ).2.2.2 Q := aw_new m99 d99_90 rfl rfl (by decide)
theorem d99_93 : decode cX11_init 93 = .ok (.dup, 1) := by decide +kernel
theorem s99_93 {d : Nat} {st : List Value} {σ : am_I} {ρ : am_R} {g : am_J} {τ : am_T} {Q : am_Q} {x0 : Value} {v : Int32} : AW d 99 93 [x0] (.int v :: st) σ ρ g τ Q = AW d 99 94 [x0] (.int v :: .int v :: st) σ ρ g τ Q := aw_lc m99 d99_93 rfl rfl rfl
theorem s99_93r {d : Nat} {st : List Value} {σ : am_I} {ρ : am_R} {g : am_J} {τ : am_T} {Q : am_Q} {x0 : Value} {v : Nat} : AW d 99 93 [x0] (.ref v :: st) σ ρ g τ Q = AW d 99 94 [x0] (.ref v :: .ref v :: st) σ ρ g τ Q := aw_lc m99 d99_93 rfl rfl rfl
theorem d99_94 : decode cX11_init 94 = .ok (.invokespecial 62, 3) := by decide +kernel
theorem s99_94 {d : Nat} {st : List Value} {σ : am_I} {ρ : am_R} {g : am_J} {τ : am_T} {Q : am_Q} {x0 : Value} {p0 : Nat} (hs : st.length ≤ 4) : AW (d + 1) 99 94 [x0] (.ref p0 :: st) σ ρ g τ Q = AW d 0 0 [.ref p0] [] σ ρ g τ (fun r9 σ ρ g τ => AW (d + 1) 99 97 [x0] (r9.toList ++ st) σ ρ g τ Q) := aw_ci m99 d99_94 rfl rfl en0 ok0 rfl hs
theorem d99_97 : decode cX11_init 97 = .ok (.putfield 63, 3) := by decide +kernel
theorem s99_97 {d : Nat} {st : List Value} {σ : am_I} {ρ : am_R} {g : am_J} {τ : am_T} {Q : am_Q} {x0 : Value} {a b : Nat} (ht : τ.1 a = 11) : AW d 99 97 [x0] (.ref b :: .ref a :: st) σ ρ g τ Q = AW d 99 100 [x0] (st) σ (am_u ρ a 8 (some b)) g τ Q := aw_pr m99 d99_97 rfl rfl (Or.inr ⟨rfl, rfl⟩) rfl ht
theorem s99_97n {d : Nat} {st : List Value} {σ : am_I} {ρ : am_R} {g : am_J} {τ : am_T} {Q : am_Q} {x0 : Value} {a : Nat} (ht : τ.1 a = 11) : AW d 99 97 [x0] (.null :: .ref a :: st) σ ρ g τ Q = AW d 99 100 [x0] (st) σ (am_u ρ a 8 none) g τ Q := aw_pn m99 d99_97 rfl rfl (Or.inr ⟨rfl, rfl⟩) rfl ht
theorem d99_100 : decode cX11_init 100 = .ok (.aload_n 0, 1) := by decide +kernel
theorem s99_100 {d : Nat} {st : List Value} {σ : am_I} {ρ : am_R} {g : am_J} {τ : am_T} {Q : am_Q} {v : Nat} : AW d 99 100 [.ref v] (st) σ ρ g τ Q = AW d 99 101 [.ref v] (.ref v :: st) σ ρ g τ Q := aw_lc m99 d99_100 rfl rfl rfl
theorem s99_100n {d : Nat} {st : List Value} {σ : am_I} {ρ : am_R} {g : am_J} {τ : am_T} {Q : am_Q} : AW d 99 100 [.null] (st) σ ρ g τ Q = AW d 99 101 [.null] (.null :: st) σ ρ g τ Q := aw_lc m99 d99_100 rfl rfl rfl
theorem d99_101 : decode cX11_init 101 = .ok (.sipush 369, 3) := by decide +kernel
theorem s99_101 {d : Nat} {st : List Value} {σ : am_I} {ρ : am_R} {g : am_J} {τ : am_T} {Q : am_Q} {x0 : Value} : AW d 99 101 [x0] (st) σ ρ g τ Q = AW d 99 104 [x0] (.int 369 :: st) σ ρ g τ Q := aw_lc m99 d99_101 rfl rfl rfl
theorem d99_104 : decode cX11_init 104 = .ok (.newarray .int, 2) := by decide +kernel
theorem s99_104 {d : Nat} {st : List Value} {σ : am_I} {ρ : am_R} {g : am_J} {τ : am_T} {Q : am_Q} {x0 : Value} {j : Int32} (hj : ¬ j < 0 ∧ j.toNatClampNeg ≤ 10000) : AW d 99 104 [x0] (.int j :: st) σ ρ g τ Q = AW d 99 106 [x0] (.ref τ.2.2.1 :: st) (am_new 15 j.toNatClampNeg σ ρ g τ).1 (am_new 15 j.toNatClampNeg σ ρ g τ).2.1 (am_new 15 j.toNatClampNeg σ ρ g τ).2.2.1 (am_new 15 j.toNatClampNeg σ ρ g τ).2.2.2 Q := aw_nwa m99 d99_104 rfl rfl (by decide) hj
theorem d99_106 : decode cX11_init 106 = .ok (.putfield 67, 3) := by decide +kernel
theorem s99_106 {d : Nat} {st : List Value} {σ : am_I} {ρ : am_R} {g : am_J} {τ : am_T} {Q : am_Q} {x0 : Value} {a b : Nat} (ht : τ.1 a = 11) : AW d 99 106 [x0] (.ref b :: .ref a :: st) σ ρ g τ Q = AW d 99 109 [x0] (st) σ (am_u ρ a 9 (some b)) g τ Q := aw_pr m99 d99_106 rfl rfl (Or.inr ⟨rfl, rfl⟩) rfl ht
theorem s99_106n {d : Nat} {st : List Value} {σ : am_I} {ρ : am_R} {g : am_J} {τ : am_T} {Q : am_Q} {x0 : Value} {a : Nat} (ht : τ.1 a = 11) : AW d 99 106 [x0] (.null :: .ref a :: st) σ ρ g τ Q = AW d 99 109 [x0] (st) σ (am_u ρ a 9 none) g τ Q := aw_pn m99 d99_106 rfl rfl (Or.inr ⟨rfl, rfl⟩) rfl ht
theorem d99_109 : decode cX11_init 109 = .ok (.aload_n 0, 1) := by decide +kernel
theorem s99_109 {d : Nat} {st : List Value} {σ : am_I} {ρ : am_R} {g : am_J} {τ : am_T} {Q : am_Q} {v : Nat} : AW d 99 109 [.ref v] (st) σ ρ g τ Q = AW d 99 110 [.ref v] (.ref v :: st) σ ρ g τ Q := aw_lc m99 d99_109 rfl rfl rfl
theorem s99_109n {d : Nat} {st : List Value} {σ : am_I} {ρ : am_R} {g : am_J} {τ : am_T} {Q : am_Q} : AW d 99 109 [.null] (st) σ ρ g τ Q = AW d 99 110 [.null] (.null :: st) σ ρ g τ Q := aw_lc m99 d99_109 rfl rfl rfl
theorem d99_110 : decode cX11_init 110 = .ok (.iconst 3, 1) := by decide +kernel
theorem s99_110 {d : Nat} {st : List Value} {σ : am_I} {ρ : am_R} {g : am_J} {τ : am_T} {Q : am_Q} {x0 : Value} : AW d 99 110 [x0] (st) σ ρ g τ Q = AW d 99 111 [x0] (.int 3 :: st) σ ρ g τ Q := aw_lc m99 d99_110 rfl rfl rfl
theorem d99_111 : decode cX11_init 111 = .ok (.newarray .int, 2) := by decide +kernel
theorem s99_111 {d : Nat} {st : List Value} {σ : am_I} {ρ : am_R} {g : am_J} {τ : am_T} {Q : am_Q} {x0 : Value} {j : Int32} (hj : ¬ j < 0 ∧ j.toNatClampNeg ≤ 10000) : AW d 99 111 [x0] (.int j :: st) σ ρ g τ Q = AW d 99 113 [x0] (.ref τ.2.2.1 :: st) (am_new 15 j.toNatClampNeg σ ρ g τ).1 (am_new 15 j.toNatClampNeg σ ρ g τ).2.1 (am_new 15 j.toNatClampNeg σ ρ g τ).2.2.1 (am_new 15 j.toNatClampNeg σ ρ g τ).2.2.2 Q := aw_nwa m99 d99_111 rfl rfl (by decide) hj
theorem d99_113 : decode cX11_init 113 = .ok (.putfield 71, 3) := by decide +kernel
theorem s99_113 {d : Nat} {st : List Value} {σ : am_I} {ρ : am_R} {g : am_J} {τ : am_T} {Q : am_Q} {x0 : Value} {a b : Nat} (ht : τ.1 a = 11) : AW d 99 113 [x0] (.ref b :: .ref a :: st) σ ρ g τ Q = AW d 99 116 [x0] (st) σ (am_u ρ a 10 (some b)) g τ Q := aw_pr m99 d99_113 rfl rfl (Or.inr ⟨rfl, rfl⟩) rfl ht
theorem s99_113n {d : Nat} {st : List Value} {σ : am_I} {ρ : am_R} {g : am_J} {τ : am_T} {Q : am_Q} {x0 : Value} {a : Nat} (ht : τ.1 a = 11) : AW d 99 113 [x0] (.null :: .ref a :: st) σ ρ g τ Q = AW d 99 116 [x0] (st) σ (am_u ρ a 10 none) g τ Q := aw_pn m99 d99_113 rfl rfl (Or.inr ⟨rfl, rfl⟩) rfl ht
theorem d99_116 : decode cX11_init 116 = .ok (.return_, 1) := by decide +kernel
theorem s99_116 {d : Nat} {σ : am_I} {ρ : am_R} {g : am_J} {τ : am_T} {Q : am_Q} {x0 : Value} : AW d 99 116 [x0] ([]) σ ρ g τ Q = Q none σ ρ g τ := aw_rv m99 d99_116 rfl
theorem d100_0 : decode cX11_within 0 = .ok (.iload_n 0, 1) := by decide +kernel
theorem s100_0 {d : Nat} {st : List Value} {σ : am_I} {ρ : am_R} {g : am_J} {τ : am_T} {Q : am_Q} {x1 x2 : Value} {v : Int32} : AW d 100 0 [.int v, x1, x2] (st) σ ρ g τ Q = AW d 100 1 [.int v, x1, x2] (.int v :: st) σ ρ g τ Q := aw_lc m100 d100_0 rfl rfl rfl
theorem d100_1 : decode cX11_within 1 = .ok (.iload_n 1, 1) := by decide +kernel
theorem s100_1 {d : Nat} {st : List Value} {σ : am_I} {ρ : am_R} {g : am_J} {τ : am_T} {Q : am_Q} {x0 x2 : Value} {v : Int32} : AW d 100 1 [x0, .int v, x2] (st) σ ρ g τ Q = AW d 100 2 [x0, .int v, x2] (.int v :: st) σ ρ g τ Q := aw_lc m100 d100_1 rfl rfl rfl
theorem d100_2 : decode cX11_within 2 = .ok (.if_icmp .lt 12, 3) := by decide +kernel
theorem s100_2 {d : Nat} {st : List Value} {σ : am_I} {ρ : am_R} {g : am_J} {τ : am_T} {Q : am_Q} {x0 x1 x2 : Value} {v w : Int32} : AW d 100 2 [x0, x1, x2] (.int w :: .int v :: st) σ ρ g τ Q = if v < w then AW d 100 14 [x0, x1, x2] (st) σ ρ g τ Q else AW d 100 5 [x0, x1, x2] (st) σ ρ g τ Q := aw_br m100 d100_2 rfl rfl rfl
theorem d100_5 : decode cX11_within 5 = .ok (.iload_n 0, 1) := by decide +kernel
theorem s100_5 {d : Nat} {st : List Value} {σ : am_I} {ρ : am_R} {g : am_J} {τ : am_T} {Q : am_Q} {x1 x2 : Value} {v : Int32} : AW d 100 5 [.int v, x1, x2] (st) σ ρ g τ Q = AW d 100 6 [.int v, x1, x2] (.int v :: st) σ ρ g τ Q := aw_lc m100 d100_5 rfl rfl rfl
theorem d100_6 : decode cX11_within 6 = .ok (.iload_n 2, 1) := by decide +kernel
theorem s100_6 {d : Nat} {st : List Value} {σ : am_I} {ρ : am_R} {g : am_J} {τ : am_T} {Q : am_Q} {x0 x1 : Value} {v : Int32} : AW d 100 6 [x0, x1, .int v] (st) σ ρ g τ Q = AW d 100 7 [x0, x1, .int v] (.int v :: st) σ ρ g τ Q := aw_lc m100 d100_6 rfl rfl rfl
theorem d100_7 : decode cX11_within 7 = .ok (.if_icmp .gt 7, 3) := by decide +kernel
theorem s100_7 {d : Nat} {st : List Value} {σ : am_I} {ρ : am_R} {g : am_J} {τ : am_T} {Q : am_Q} {x0 x1 x2 : Value} {v w : Int32} : AW d 100 7 [x0, x1, x2] (.int w :: .int v :: st) σ ρ g τ Q = if w < v then AW d 100 14 [x0, x1, x2] (st) σ ρ g τ Q else AW d 100 10 [x0, x1, x2] (st) σ ρ g τ Q := aw_br m100 d100_7 rfl rfl rfl
theorem d100_10 : decode cX11_within 10 = .ok (.iconst 1, 1) := by decide +kernel
theorem s100_10 {d : Nat} {st : List Value} {σ : am_I} {ρ : am_R} {g : am_J} {τ : am_T} {Q : am_Q} {x0 x1 x2 : Value} : AW d 100 10 [x0, x1, x2] (st) σ ρ g τ Q = AW d 100 11 [x0, x1, x2] (.int 1 :: st) σ ρ g τ Q := aw_lc m100 d100_10 rfl rfl rfl
theorem d100_11 : decode cX11_within 11 = .ok (.goto 4, 3) := by decide +kernel
theorem s100_11 {d : Nat} {st : List Value} {σ : am_I} {ρ : am_R} {g : am_J} {τ : am_T} {Q : am_Q} {x0 x1 x2 : Value} : AW d 100 11 [x0, x1, x2] (st) σ ρ g τ Q = AW d 100 15 [x0, x1, x2] (st) σ ρ g τ Q := aw_lc m100 d100_11 rfl rfl rfl
theorem d100_14 : decode cX11_within 14 = .ok (.iconst 0, 1) := by decide +kernel
theorem s100_14 {d : Nat} {st : List Value} {σ : am_I} {ρ : am_R} {g : am_J} {τ : am_T} {Q : am_Q} {x0 x1 x2 : Value} : AW d 100 14 [x0, x1, x2] (st) σ ρ g τ Q = AW d 100 15 [x0, x1, x2] (.int 0 :: st) σ ρ g τ Q := aw_lc m100 d100_14 rfl rfl rfl
theorem d100_15 : decode cX11_within 15 = .ok (.ireturn, 1) := by decide +kernel
theorem s100_15 {d : Nat} {σ : am_I} {ρ : am_R} {g : am_J} {τ : am_T} {Q : am_Q} {x0 x1 x2 : Value} {v : Int32} (hv : am_b01 v = true) : AW d 100 15 [x0, x1, x2] ([.int v]) σ ρ g τ Q = Q (some (.int v)) σ ρ g τ := aw_rz m100 d100_15 rfl hv
theorem d101_0 : decode cX11_isMonth 0 = .ok (.iload_n 0, 1) := by decide +kernel
theorem s101_0 {d : Nat} {st : List Value} {σ : am_I} {ρ : am_R} {g : am_J} {τ : am_T} {Q : am_Q} {v : Int32} : AW d 101 0 [.int v] (st) σ ρ g τ Q = AW d 101 1 [.int v] (.int v :: st) σ ρ g τ Q := aw_lc m101 d101_0 rfl rfl rfl
theorem d101_1 : decode cX11_isMonth 1 = .ok (.iconst 0, 1) := by decide +kernel
theorem s101_1 {d : Nat} {st : List Value} {σ : am_I} {ρ : am_R} {g : am_J} {τ : am_T} {Q : am_Q} {x0 : Value} : AW d 101 1 [x0] (st) σ ρ g τ Q = AW d 101 2 [x0] (.int 0 :: st) σ ρ g τ Q := aw_lc m101 d101_1 rfl rfl rfl
theorem d101_2 : decode cX11_isMonth 2 = .ok (.sipush 599, 3) := by decide +kernel
theorem s101_2 {d : Nat} {st : List Value} {σ : am_I} {ρ : am_R} {g : am_J} {τ : am_T} {Q : am_Q} {x0 : Value} : AW d 101 2 [x0] (st) σ ρ g τ Q = AW d 101 5 [x0] (.int 599 :: st) σ ρ g τ Q := aw_lc m101 d101_2 rfl rfl rfl
theorem d101_5 : decode cX11_isMonth 5 = .ok (.invokestatic 74, 3) := by decide +kernel
theorem s101_5 {d : Nat} {st : List Value} {σ : am_I} {ρ : am_R} {g : am_J} {τ : am_T} {Q : am_Q} {x0 : Value} {p0 : Int32} {p1 : Int32} {p2 : Int32} (hs : st.length ≤ 4) : AW (d + 1) 101 5 [x0] (.int p2 :: .int p1 :: .int p0 :: st) σ ρ g τ Q = AW d 100 0 [.int p0, .int p1, .int p2] [] σ ρ g τ (fun r9 σ ρ g τ => AW (d + 1) 101 8 [x0] (r9.toList ++ st) σ ρ g τ Q) := aw_cs m101 d101_5 rfl (by simp only [List.length_cons]; omega) rfl rfl en100 ok100 rfl hs
theorem d101_8 : decode cX11_isMonth 8 = .ok (.ireturn, 1) := by decide +kernel
theorem s101_8 {d : Nat} {σ : am_I} {ρ : am_R} {g : am_J} {τ : am_T} {Q : am_Q} {x0 : Value} {v : Int32} (hv : am_b01 v = true) : AW d 101 8 [x0] ([.int v]) σ ρ g τ Q = Q (some (.int v)) σ ρ g τ := aw_rz m101 d101_8 rfl hv
theorem d102_0 : decode cX11_isSort 0 = .ok (.iload_n 0, 1) := by decide +kernel
theorem s102_0 {d : Nat} {st : List Value} {σ : am_I} {ρ : am_R} {g : am_J} {τ : am_T} {Q : am_Q} {v : Int32} : AW d 102 0 [.int v] (st) σ ρ g τ Q = AW d 102 1 [.int v] (.int v :: st) σ ρ g τ Q := aw_lc m102 d102_0 rfl rfl rfl
theorem d102_1 : decode cX11_isSort 1 = .ok (.iconst 0, 1) := by decide +kernel
theorem s102_1 {d : Nat} {st : List Value} {σ : am_I} {ρ : am_R} {g : am_J} {τ : am_T} {Q : am_Q} {x0 : Value} : AW d 102 1 [x0] (st) σ ρ g τ Q = AW d 102 2 [x0] (.int 0 :: st) σ ρ g τ Q := aw_lc m102 d102_1 rfl rfl rfl
theorem d102_2 : decode cX11_isSort 2 = .ok (.iconst 2, 1) := by decide +kernel
theorem s102_2 {d : Nat} {st : List Value} {σ : am_I} {ρ : am_R} {g : am_J} {τ : am_T} {Q : am_Q} {x0 : Value} : AW d 102 2 [x0] (st) σ ρ g τ Q = AW d 102 3 [x0] (.int 2 :: st) σ ρ g τ Q := aw_lc m102 d102_2 rfl rfl rfl
theorem d102_3 : decode cX11_isSort 3 = .ok (.invokestatic 74, 3) := by decide +kernel
theorem s102_3 {d : Nat} {st : List Value} {σ : am_I} {ρ : am_R} {g : am_J} {τ : am_T} {Q : am_Q} {x0 : Value} {p0 : Int32} {p1 : Int32} {p2 : Int32} (hs : st.length ≤ 4) : AW (d + 1) 102 3 [x0] (.int p2 :: .int p1 :: .int p0 :: st) σ ρ g τ Q = AW d 100 0 [.int p0, .int p1, .int p2] [] σ ρ g τ (fun r9 σ ρ g τ => AW (d + 1) 102 6 [x0] (r9.toList ++ st) σ ρ g τ Q) := aw_cs m102 d102_3 rfl (by simp only [List.length_cons]; omega) rfl rfl en100 ok100 rfl hs
theorem d102_6 : decode cX11_isSort 6 = .ok (.ireturn, 1) := by decide +kernel
theorem s102_6 {d : Nat} {σ : am_I} {ρ : am_R} {g : am_J} {τ : am_T} {Q : am_Q} {x0 : Value} {v : Int32} (hv : am_b01 v = true) : AW d 102 6 [x0] ([.int v]) σ ρ g τ Q = Q (some (.int v)) σ ρ g τ := aw_rz m102 d102_6 rfl hv
theorem d103_0 : decode cX11_isHouse 0 = .ok (.iload_n 0, 1) := by decide +kernel
theorem s103_0 {d : Nat} {st : List Value} {σ : am_I} {ρ : am_R} {g : am_J} {τ : am_T} {Q : am_Q} {v : Int32} : AW d 103 0 [.int v] (st) σ ρ g τ Q = AW d 103 1 [.int v] (.int v :: st) σ ρ g τ Q := aw_lc m103 d103_0 rfl rfl rfl
theorem d103_1 : decode cX11_isHouse 1 = .ok (.iconst 0, 1) := by decide +kernel
theorem s103_1 {d : Nat} {st : List Value} {σ : am_I} {ρ : am_R} {g : am_J} {τ : am_T} {Q : am_Q} {x0 : Value} : AW d 103 1 [x0] (st) σ ρ g τ Q = AW d 103 2 [x0] (.int 0 :: st) σ ρ g τ Q := aw_lc m103 d103_1 rfl rfl rfl
theorem d103_2 : decode cX11_isHouse 2 = .ok (.iconst 4, 1) := by decide +kernel
theorem s103_2 {d : Nat} {st : List Value} {σ : am_I} {ρ : am_R} {g : am_J} {τ : am_T} {Q : am_Q} {x0 : Value} : AW d 103 2 [x0] (st) σ ρ g τ Q = AW d 103 3 [x0] (.int 4 :: st) σ ρ g τ Q := aw_lc m103 d103_2 rfl rfl rfl
theorem d103_3 : decode cX11_isHouse 3 = .ok (.invokestatic 74, 3) := by decide +kernel
theorem s103_3 {d : Nat} {st : List Value} {σ : am_I} {ρ : am_R} {g : am_J} {τ : am_T} {Q : am_Q} {x0 : Value} {p0 : Int32} {p1 : Int32} {p2 : Int32} (hs : st.length ≤ 4) : AW (d + 1) 103 3 [x0] (.int p2 :: .int p1 :: .int p0 :: st) σ ρ g τ Q = AW d 100 0 [.int p0, .int p1, .int p2] [] σ ρ g τ (fun r9 σ ρ g τ => AW (d + 1) 103 6 [x0] (r9.toList ++ st) σ ρ g τ Q) := aw_cs m103 d103_3 rfl (by simp only [List.length_cons]; omega) rfl rfl en100 ok100 rfl hs
theorem d103_6 : decode cX11_isHouse 6 = .ok (.ireturn, 1) := by decide +kernel
theorem s103_6 {d : Nat} {σ : am_I} {ρ : am_R} {g : am_J} {τ : am_T} {Q : am_Q} {x0 : Value} {v : Int32} (hv : am_b01 v = true) : AW d 103 6 [x0] ([.int v]) σ ρ g τ Q = Q (some (.int v)) σ ρ g τ := aw_rz m103 d103_6 rfl hv
theorem d104_0 : decode cX11_isSum 0 = .ok (.iload_n 0, 1) := by decide +kernel
theorem s104_0 {d : Nat} {st : List Value} {σ : am_I} {ρ : am_R} {g : am_J} {τ : am_T} {Q : am_Q} {v : Int32} : AW d 104 0 [.int v] (st) σ ρ g τ Q = AW d 104 1 [.int v] (.int v :: st) σ ρ g τ Q := aw_lc m104 d104_0 rfl rfl rfl
theorem d104_1 : decode cX11_isSum 1 = .ok (.iconst 1, 1) := by decide +kernel
theorem s104_1 {d : Nat} {st : List Value} {σ : am_I} {ρ : am_R} {g : am_J} {τ : am_T} {Q : am_Q} {x0 : Value} : AW d 104 1 [x0] (st) σ ρ g τ Q = AW d 104 2 [x0] (.int 1 :: st) σ ρ g τ Q := aw_lc m104 d104_1 rfl rfl rfl
theorem d104_2 : decode cX11_isSum 2 = .ok (.sipush 999, 3) := by decide +kernel
theorem s104_2 {d : Nat} {st : List Value} {σ : am_I} {ρ : am_R} {g : am_J} {τ : am_T} {Q : am_Q} {x0 : Value} : AW d 104 2 [x0] (st) σ ρ g τ Q = AW d 104 5 [x0] (.int 999 :: st) σ ρ g τ Q := aw_lc m104 d104_2 rfl rfl rfl
theorem d104_5 : decode cX11_isSum 5 = .ok (.invokestatic 74, 3) := by decide +kernel
theorem s104_5 {d : Nat} {st : List Value} {σ : am_I} {ρ : am_R} {g : am_J} {τ : am_T} {Q : am_Q} {x0 : Value} {p0 : Int32} {p1 : Int32} {p2 : Int32} (hs : st.length ≤ 4) : AW (d + 1) 104 5 [x0] (.int p2 :: .int p1 :: .int p0 :: st) σ ρ g τ Q = AW d 100 0 [.int p0, .int p1, .int p2] [] σ ρ g τ (fun r9 σ ρ g τ => AW (d + 1) 104 8 [x0] (r9.toList ++ st) σ ρ g τ Q) := aw_cs m104 d104_5 rfl (by simp only [List.length_cons]; omega) rfl rfl en100 ok100 rfl hs
theorem d104_8 : decode cX11_isSum 8 = .ok (.ireturn, 1) := by decide +kernel
theorem s104_8 {d : Nat} {σ : am_I} {ρ : am_R} {g : am_J} {τ : am_T} {Q : am_Q} {x0 : Value} {v : Int32} (hv : am_b01 v = true) : AW d 104 8 [x0] ([.int v]) σ ρ g τ Q = Q (some (.int v)) σ ρ g τ := aw_rz m104 d104_8 rfl hv
theorem d105_0 : decode cX11_isEvery 0 = .ok (.iload_n 0, 1) := by decide +kernel
theorem s105_0 {d : Nat} {st : List Value} {σ : am_I} {ρ : am_R} {g : am_J} {τ : am_T} {Q : am_Q} {v : Int32} : AW d 105 0 [.int v] (st) σ ρ g τ Q = AW d 105 1 [.int v] (.int v :: st) σ ρ g τ Q := aw_lc m105 d105_0 rfl rfl rfl
theorem d105_1 : decode cX11_isEvery 1 = .ok (.iconst 1, 1) := by decide +kernel
theorem s105_1 {d : Nat} {st : List Value} {σ : am_I} {ρ : am_R} {g : am_J} {τ : am_T} {Q : am_Q} {x0 : Value} : AW d 105 1 [x0] (st) σ ρ g τ Q = AW d 105 2 [x0] (.int 1 :: st) σ ρ g τ Q := aw_lc m105 d105_1 rfl rfl rfl
theorem d105_2 : decode cX11_isEvery 2 = .ok (.bipush 12, 2) := by decide +kernel
theorem s105_2 {d : Nat} {st : List Value} {σ : am_I} {ρ : am_R} {g : am_J} {τ : am_T} {Q : am_Q} {x0 : Value} : AW d 105 2 [x0] (st) σ ρ g τ Q = AW d 105 4 [x0] (.int 12 :: st) σ ρ g τ Q := aw_lc m105 d105_2 rfl rfl rfl
theorem d105_4 : decode cX11_isEvery 4 = .ok (.invokestatic 74, 3) := by decide +kernel
theorem s105_4 {d : Nat} {st : List Value} {σ : am_I} {ρ : am_R} {g : am_J} {τ : am_T} {Q : am_Q} {x0 : Value} {p0 : Int32} {p1 : Int32} {p2 : Int32} (hs : st.length ≤ 4) : AW (d + 1) 105 4 [x0] (.int p2 :: .int p1 :: .int p0 :: st) σ ρ g τ Q = AW d 100 0 [.int p0, .int p1, .int p2] [] σ ρ g τ (fun r9 σ ρ g τ => AW (d + 1) 105 7 [x0] (r9.toList ++ st) σ ρ g τ Q) := aw_cs m105 d105_4 rfl (by simp only [List.length_cons]; omega) rfl rfl en100 ok100 rfl hs
theorem d105_7 : decode cX11_isEvery 7 = .ok (.ireturn, 1) := by decide +kernel
theorem s105_7 {d : Nat} {σ : am_I} {ρ : am_R} {g : am_J} {τ : am_T} {Q : am_Q} {x0 : Value} {v : Int32} (hv : am_b01 v = true) : AW d 105 7 [x0] ([.int v]) σ ρ g τ Q = Q (some (.int v)) σ ρ g τ := aw_rz m105 d105_7 rfl hv
theorem d106_0 : decode cX11_isSheet 0 = .ok (.iload_n 0, 1) := by decide +kernel
theorem s106_0 {d : Nat} {st : List Value} {σ : am_I} {ρ : am_R} {g : am_J} {τ : am_T} {Q : am_Q} {v : Int32} : AW d 106 0 [.int v] (st) σ ρ g τ Q = AW d 106 1 [.int v] (.int v :: st) σ ρ g τ Q := aw_lc m106 d106_0 rfl rfl rfl
theorem d106_1 : decode cX11_isSheet 1 = .ok (.iconst 0, 1) := by decide +kernel
theorem s106_1 {d : Nat} {st : List Value} {σ : am_I} {ρ : am_R} {g : am_J} {τ : am_T} {Q : am_Q} {x0 : Value} : AW d 106 1 [x0] (st) σ ρ g τ Q = AW d 106 2 [x0] (.int 0 :: st) σ ρ g τ Q := aw_lc m106 d106_1 rfl rfl rfl
theorem d106_2 : decode cX11_isSheet 2 = .ok (.iconst 3, 1) := by decide +kernel
theorem s106_2 {d : Nat} {st : List Value} {σ : am_I} {ρ : am_R} {g : am_J} {τ : am_T} {Q : am_Q} {x0 : Value} : AW d 106 2 [x0] (st) σ ρ g τ Q = AW d 106 3 [x0] (.int 3 :: st) σ ρ g τ Q := aw_lc m106 d106_2 rfl rfl rfl
theorem d106_3 : decode cX11_isSheet 3 = .ok (.invokestatic 74, 3) := by decide +kernel
theorem s106_3 {d : Nat} {st : List Value} {σ : am_I} {ρ : am_R} {g : am_J} {τ : am_T} {Q : am_Q} {x0 : Value} {p0 : Int32} {p1 : Int32} {p2 : Int32} (hs : st.length ≤ 4) : AW (d + 1) 106 3 [x0] (.int p2 :: .int p1 :: .int p0 :: st) σ ρ g τ Q = AW d 100 0 [.int p0, .int p1, .int p2] [] σ ρ g τ (fun r9 σ ρ g τ => AW (d + 1) 106 6 [x0] (r9.toList ++ st) σ ρ g τ Q) := aw_cs m106 d106_3 rfl (by simp only [List.length_cons]; omega) rfl rfl en100 ok100 rfl hs
theorem d106_6 : decode cX11_isSheet 6 = .ok (.ireturn, 1) := by decide +kernel
theorem s106_6 {d : Nat} {σ : am_I} {ρ : am_R} {g : am_J} {τ : am_T} {Q : am_Q} {x0 : Value} {v : Int32} (hv : am_b01 v = true) : AW d 106 6 [x0] ([.int v]) σ ρ g τ Q = Q (some (.int v)) σ ρ g τ := aw_rz m106 d106_6 rfl hv
theorem d107_0 : decode cX11_isShelf 0 = .ok (.iload_n 0, 1) := by decide +kernel
theorem s107_0 {d : Nat} {st : List Value} {σ : am_I} {ρ : am_R} {g : am_J} {τ : am_T} {Q : am_Q} {v : Int32} : AW d 107 0 [.int v] (st) σ ρ g τ Q = AW d 107 1 [.int v] (.int v :: st) σ ρ g τ Q := aw_lc m107 d107_0 rfl rfl rfl
theorem d107_1 : decode cX11_isShelf 1 = .ok (.iconst 0, 1) := by decide +kernel
theorem s107_1 {d : Nat} {st : List Value} {σ : am_I} {ρ : am_R} {g : am_J} {τ : am_T} {Q : am_Q} {x0 : Value} : AW d 107 1 [x0] (st) σ ρ g τ Q = AW d 107 2 [x0] (.int 0 :: st) σ ρ g τ Q := aw_lc m107 d107_1 rfl rfl rfl
theorem d107_2 : decode cX11_isShelf 2 = .ok (.iconst 3, 1) := by decide +kernel
theorem s107_2 {d : Nat} {st : List Value} {σ : am_I} {ρ : am_R} {g : am_J} {τ : am_T} {Q : am_Q} {x0 : Value} : AW d 107 2 [x0] (st) σ ρ g τ Q = AW d 107 3 [x0] (.int 3 :: st) σ ρ g τ Q := aw_lc m107 d107_2 rfl rfl rfl
theorem d107_3 : decode cX11_isShelf 3 = .ok (.invokestatic 74, 3) := by decide +kernel
theorem s107_3 {d : Nat} {st : List Value} {σ : am_I} {ρ : am_R} {g : am_J} {τ : am_T} {Q : am_Q} {x0 : Value} {p0 : Int32} {p1 : Int32} {p2 : Int32} (hs : st.length ≤ 4) : AW (d + 1) 107 3 [x0] (.int p2 :: .int p1 :: .int p0 :: st) σ ρ g τ Q = AW d 100 0 [.int p0, .int p1, .int p2] [] σ ρ g τ (fun r9 σ ρ g τ => AW (d + 1) 107 6 [x0] (r9.toList ++ st) σ ρ g τ Q) := aw_cs m107 d107_3 rfl (by simp only [List.length_cons]; omega) rfl rfl en100 ok100 rfl hs
theorem d107_6 : decode cX11_isShelf 6 = .ok (.ireturn, 1) := by decide +kernel
theorem s107_6 {d : Nat} {σ : am_I} {ρ : am_R} {g : am_J} {τ : am_T} {Q : am_Q} {x0 : Value} {v : Int32} (hv : am_b01 v = true) : AW d 107 6 [x0] ([.int v]) σ ρ g τ Q = Q (some (.int v)) σ ρ g τ := aw_rz m107 d107_6 rfl hv
theorem d108_0 : decode cX11_months 0 = .ok (.iload_n 1, 1) := by decide +kernel
theorem s108_0 {d : Nat} {st : List Value} {σ : am_I} {ρ : am_R} {g : am_J} {τ : am_T} {Q : am_Q} {x0 x2 : Value} {v : Int32} : AW d 108 0 [x0, .int v, x2] (st) σ ρ g τ Q = AW d 108 1 [x0, .int v, x2] (.int v :: st) σ ρ g τ Q := aw_lc m108 d108_0 rfl rfl rfl
theorem d108_1 : decode cX11_months 1 = .ok (.iconst 1, 1) := by decide +kernel
theorem s108_1 {d : Nat} {st : List Value} {σ : am_I} {ρ : am_R} {g : am_J} {τ : am_T} {Q : am_Q} {x0 x1 x2 : Value} : AW d 108 1 [x0, x1, x2] (st) σ ρ g τ Q = AW d 108 2 [x0, x1, x2] (.int 1 :: st) σ ρ g τ Q := aw_lc m108 d108_1 rfl rfl rfl
theorem d108_2 : decode cX11_months 2 = .ok (.bipush 60, 2) := by decide +kernel
theorem s108_2 {d : Nat} {st : List Value} {σ : am_I} {ρ : am_R} {g : am_J} {τ : am_T} {Q : am_Q} {x0 x1 x2 : Value} : AW d 108 2 [x0, x1, x2] (st) σ ρ g τ Q = AW d 108 4 [x0, x1, x2] (.int 60 :: st) σ ρ g τ Q := aw_lc m108 d108_2 rfl rfl rfl
theorem d108_4 : decode cX11_months 4 = .ok (.invokestatic 74, 3) := by decide +kernel
theorem s108_4 {d : Nat} {st : List Value} {σ : am_I} {ρ : am_R} {g : am_J} {τ : am_T} {Q : am_Q} {x0 x1 x2 : Value} {p0 : Int32} {p1 : Int32} {p2 : Int32} (hs : st.length ≤ 4) : AW (d + 1) 108 4 [x0, x1, x2] (.int p2 :: .int p1 :: .int p0 :: st) σ ρ g τ Q = AW d 100 0 [.int p0, .int p1, .int p2] [] σ ρ g τ (fun r9 σ ρ g τ => AW (d + 1) 108 7 [x0, x1, x2] (r9.toList ++ st) σ ρ g τ Q) := aw_cs m108 d108_4 rfl (by simp only [List.length_cons]; omega) rfl rfl en100 ok100 rfl hs
theorem d108_7 : decode cX11_months 7 = .ok (.ifCond .ne 5, 3) := by decide +kernel
theorem s108_7 {d : Nat} {st : List Value} {σ : am_I} {ρ : am_R} {g : am_J} {τ : am_T} {Q : am_Q} {x0 x1 x2 : Value} {v : Int32} : AW d 108 7 [x0, x1, x2] (.int v :: st) σ ρ g τ Q = if ¬ v = 0 then AW d 108 12 [x0, x1, x2] (st) σ ρ g τ Q else AW d 108 10 [x0, x1, x2] (st) σ ρ g τ Q := aw_br m108 d108_7 rfl rfl rfl
theorem d108_10 : decode cX11_months 10 = .ok (.iconst (-1), 1) := by decide +kernel
theorem s108_10 {d : Nat} {st : List Value} {σ : am_I} {ρ : am_R} {g : am_J} {τ : am_T} {Q : am_Q} {x0 x1 x2 : Value} : AW d 108 10 [x0, x1, x2] (st) σ ρ g τ Q = AW d 108 11 [x0, x1, x2] (.int (-1) :: st) σ ρ g τ Q := aw_lc m108 d108_10 rfl rfl rfl
theorem d108_11 : decode cX11_months 11 = .ok (.ireturn, 1) := by decide +kernel
theorem s108_11 {d : Nat} {σ : am_I} {ρ : am_R} {g : am_J} {τ : am_T} {Q : am_Q} {x0 x1 x2 : Value} {v : Int32} : AW d 108 11 [x0, x1, x2] ([.int v]) σ ρ g τ Q = Q (some (.int v)) σ ρ g τ := aw_ri m108 d108_11 rfl
theorem d108_12 : decode cX11_months 12 = .ok (.aload_n 0, 1) := by decide +kernel
theorem s108_12 {d : Nat} {st : List Value} {σ : am_I} {ρ : am_R} {g : am_J} {τ : am_T} {Q : am_Q} {x1 x2 : Value} {v : Nat} : AW d 108 12 [.ref v, x1, x2] (st) σ ρ g τ Q = AW d 108 13 [.ref v, x1, x2] (.ref v :: st) σ ρ g τ Q := aw_lc m108 d108_12 rfl rfl rfl
theorem d108_13 : decode cX11_months 13 = .ok (.getfield 10, 3) := by decide +kernel
theorem s108_13 {d : Nat} {st : List Value} {σ : am_I} {ρ : am_R} {g : am_J} {τ : am_T} {Q : am_Q} {x0 x1 x2 : Value} {a : Nat} (ht : τ.1 a = 11) : AW d 108 13 [x0, x1, x2] (.ref a :: st) σ ρ g τ Q = AW d 108 16 [x0, x1, x2] (va_rf (ρ a 0) :: st) σ ρ g τ Q := aw_gr m108 d108_13 rfl rfl rfl ht
theorem d108_16 : decode cX11_months 16 = .ok (.getfield 78, 3) := by decide +kernel
theorem s108_16 {d : Nat} {st : List Value} {σ : am_I} {ρ : am_R} {g : am_J} {τ : am_T} {Q : am_Q} {x0 x1 x2 : Value} {a : Nat} (ht : τ.1 a = 3) : AW d 108 16 [x0, x1, x2] (.ref a :: st) σ ρ g τ Q = AW d 108 19 [x0, x1, x2] (.int (σ a 0) :: st) σ ρ g τ Q := aw_gi m108 d108_16 rfl rfl rfl ht
theorem d108_19 : decode cX11_months 19 = .ok (.iload_n 1, 1) := by decide +kernel
theorem s108_19 {d : Nat} {st : List Value} {σ : am_I} {ρ : am_R} {g : am_J} {τ : am_T} {Q : am_Q} {x0 x2 : Value} {v : Int32} : AW d 108 19 [x0, .int v, x2] (st) σ ρ g τ Q = AW d 108 20 [x0, .int v, x2] (.int v :: st) σ ρ g τ Q := aw_lc m108 d108_19 rfl rfl rfl
theorem d108_20 : decode cX11_months 20 = .ok (.iadd, 1) := by decide +kernel
theorem s108_20 {d : Nat} {st : List Value} {σ : am_I} {ρ : am_R} {g : am_J} {τ : am_T} {Q : am_Q} {x0 x1 x2 : Value} {v w : Int32} : AW d 108 20 [x0, x1, x2] (.int w :: .int v :: st) σ ρ g τ Q = AW d 108 21 [x0, x1, x2] (.int (v + w) :: st) σ ρ g τ Q := aw_lc m108 d108_20 rfl rfl rfl
theorem d108_21 : decode cX11_months 21 = .ok (.sipush 599, 3) := by decide +kernel
theorem s108_21 {d : Nat} {st : List Value} {σ : am_I} {ρ : am_R} {g : am_J} {τ : am_T} {Q : am_Q} {x0 x1 x2 : Value} : AW d 108 21 [x0, x1, x2] (st) σ ρ g τ Q = AW d 108 24 [x0, x1, x2] (.int 599 :: st) σ ρ g τ Q := aw_lc m108 d108_21 rfl rfl rfl
theorem d108_24 : decode cX11_months 24 = .ok (.if_icmp .le 6, 3) := by decide +kernel
theorem s108_24 {d : Nat} {st : List Value} {σ : am_I} {ρ : am_R} {g : am_J} {τ : am_T} {Q : am_Q} {x0 x1 x2 : Value} {v w : Int32} : AW d 108 24 [x0, x1, x2] (.int w :: .int v :: st) σ ρ g τ Q = if v ≤ w then AW d 108 30 [x0, x1, x2] (st) σ ρ g τ Q else AW d 108 27 [x0, x1, x2] (st) σ ρ g τ Q := aw_br m108 d108_24 rfl rfl rfl
theorem d108_27 : decode cX11_months 27 = .ok (.bipush (-4), 2) := by decide +kernel
theorem s108_27 {d : Nat} {st : List Value} {σ : am_I} {ρ : am_R} {g : am_J} {τ : am_T} {Q : am_Q} {x0 x1 x2 : Value} : AW d 108 27 [x0, x1, x2] (st) σ ρ g τ Q = AW d 108 29 [x0, x1, x2] (.int (-4) :: st) σ ρ g τ Q := aw_lc m108 d108_27 rfl rfl rfl
theorem d108_29 : decode cX11_months 29 = .ok (.ireturn, 1) := by decide +kernel
theorem s108_29 {d : Nat} {σ : am_I} {ρ : am_R} {g : am_J} {τ : am_T} {Q : am_Q} {x0 x1 x2 : Value} {v : Int32} : AW d 108 29 [x0, x1, x2] ([.int v]) σ ρ g τ Q = Q (some (.int v)) σ ρ g τ := aw_ri m108 d108_29 rfl
theorem d108_30 : decode cX11_months 30 = .ok (.iconst 0, 1) := by decide +kernel
theorem s108_30 {d : Nat} {st : List Value} {σ : am_I} {ρ : am_R} {g : am_J} {τ : am_T} {Q : am_Q} {x0 x1 x2 : Value} : AW d 108 30 [x0, x1, x2] (st) σ ρ g τ Q = AW d 108 31 [x0, x1, x2] (.int 0 :: st) σ ρ g τ Q := aw_lc m108 d108_30 rfl rfl rfl
theorem d108_31 : decode cX11_months 31 = .ok (.istore_n 2, 1) := by decide +kernel
theorem s108_31 {d : Nat} {st : List Value} {σ : am_I} {ρ : am_R} {g : am_J} {τ : am_T} {Q : am_Q} {x0 x2 : Value} {v : Int32} {u : Int32} : AW d 108 31 [x0, .int u, x2] (.int v :: st) σ ρ g τ Q = AW d 108 32 [x0, .int u, .int v] (st) σ ρ g τ Q := aw_lc m108 d108_31 rfl rfl rfl
theorem d108_32 : decode cX11_months 32 = .ok (.iload_n 2, 1) := by decide +kernel
theorem s108_32 {d : Nat} {st : List Value} {σ : am_I} {ρ : am_R} {g : am_J} {τ : am_T} {Q : am_Q} {x0 x1 : Value} {v : Int32} : AW d 108 32 [x0, x1, .int v] (st) σ ρ g τ Q = AW d 108 33 [x0, x1, .int v] (.int v :: st) σ ρ g τ Q := aw_lc m108 d108_32 rfl rfl rfl
theorem d108_33 : decode cX11_months 33 = .ok (.iload_n 1, 1) := by decide +kernel
theorem s108_33 {d : Nat} {st : List Value} {σ : am_I} {ρ : am_R} {g : am_J} {τ : am_T} {Q : am_Q} {x0 x2 : Value} {v : Int32} : AW d 108 33 [x0, .int v, x2] (st) σ ρ g τ Q = AW d 108 34 [x0, .int v, x2] (.int v :: st) σ ρ g τ Q := aw_lc m108 d108_33 rfl rfl rfl
theorem d108_34 : decode cX11_months 34 = .ok (.if_icmp .ge 13, 3) := by decide +kernel
theorem s108_34 {d : Nat} {st : List Value} {σ : am_I} {ρ : am_R} {g : am_J} {τ : am_T} {Q : am_Q} {x0 x1 x2 : Value} {v w : Int32} : AW d 108 34 [x0, x1, x2] (.int w :: .int v :: st) σ ρ g τ Q = if w ≤ v then AW d 108 47 [x0, x1, x2] (st) σ ρ g τ Q else AW d 108 37 [x0, x1, x2] (st) σ ρ g τ Q := aw_br m108 d108_34 rfl rfl rfl
theorem d108_37 : decode cX11_months 37 = .ok (.aload_n 0, 1) := by decide +kernel
theorem s108_37 {d : Nat} {st : List Value} {σ : am_I} {ρ : am_R} {g : am_J} {τ : am_T} {Q : am_Q} {x1 x2 : Value} {v : Nat} : AW d 108 37 [.ref v, x1, x2] (st) σ ρ g τ Q = AW d 108 38 [.ref v, x1, x2] (.ref v :: st) σ ρ g τ Q := aw_lc m108 d108_37 rfl rfl rfl
theorem d108_38 : decode cX11_months 38 = .ok (.invokevirtual 82, 3) := by decide +kernel
theorem s108_38 {d : Nat} {st : List Value} {σ : am_I} {ρ : am_R} {g : am_J} {τ : am_T} {Q : am_Q} {x0 x1 x2 : Value} {p0 : Nat} (ht : τ.1 p0 = 11) (hs : st.length ≤ 4) : AW (d + 1) 108 38 [x0, x1, x2] (.ref p0 :: st) σ ρ g τ Q = AW d 109 0 [.ref p0, am_jk] [] σ ρ g τ (fun r9 σ ρ g τ => AW (d + 1) 108 41 [x0, x1, x2] (r9.toList ++ st) σ ρ g τ Q) := aw_cv m108 d108_38 rfl m109 rfl rfl (by decide) en109 ok109 rfl ht hs
theorem d108_41 : decode cX11_months 41 = .ok (.iinc 2 1, 3) := by decide +kernel
theorem s108_41 {d : Nat} {st : List Value} {σ : am_I} {ρ : am_R} {g : am_J} {τ : am_T} {Q : am_Q} {x0 : Value} {v : Int32} {u : Int32} : AW d 108 41 [x0, .int u, .int v] (st) σ ρ g τ Q = AW d 108 44 [x0, .int u, .int (v + 1)] (st) σ ρ g τ Q := aw_lc m108 d108_41 rfl rfl rfl
theorem d108_44 : decode cX11_months 44 = .ok (.goto (-12), 3) := by decide +kernel
theorem s108_44 {d : Nat} {st : List Value} {σ : am_I} {ρ : am_R} {g : am_J} {τ : am_T} {Q : am_Q} {x0 x1 x2 : Value} : AW d 108 44 [x0, x1, x2] (st) σ ρ g τ Q = AW d 108 32 [x0, x1, x2] (st) σ ρ g τ Q := aw_lc m108 d108_44 rfl rfl rfl
theorem d108_47 : decode cX11_months 47 = .ok (.aload_n 0, 1) := by decide +kernel
theorem s108_47 {d : Nat} {st : List Value} {σ : am_I} {ρ : am_R} {g : am_J} {τ : am_T} {Q : am_Q} {x1 x2 : Value} {v : Nat} : AW d 108 47 [.ref v, x1, x2] (st) σ ρ g τ Q = AW d 108 48 [.ref v, x1, x2] (.ref v :: st) σ ρ g τ Q := aw_lc m108 d108_47 rfl rfl rfl
theorem d108_48 : decode cX11_months 48 = .ok (.getfield 10, 3) := by decide +kernel
theorem s108_48 {d : Nat} {st : List Value} {σ : am_I} {ρ : am_R} {g : am_J} {τ : am_T} {Q : am_Q} {x0 x1 x2 : Value} {a : Nat} (ht : τ.1 a = 11) : AW d 108 48 [x0, x1, x2] (.ref a :: st) σ ρ g τ Q = AW d 108 51 [x0, x1, x2] (va_rf (ρ a 0) :: st) σ ρ g τ Q := aw_gr m108 d108_48 rfl rfl rfl ht
theorem d108_51 : decode cX11_months 51 = .ok (.getfield 78, 3) := by decide +kernel
theorem s108_51 {d : Nat} {st : List Value} {σ : am_I} {ρ : am_R} {g : am_J} {τ : am_T} {Q : am_Q} {x0 x1 x2 : Value} {a : Nat} (ht : τ.1 a = 3) : AW d 108 51 [x0, x1, x2] (.ref a :: st) σ ρ g τ Q = AW d 108 54 [x0, x1, x2] (.int (σ a 0) :: st) σ ρ g τ Q := aw_gi m108 d108_51 rfl rfl rfl ht
theorem d108_54 : decode cX11_months 54 = .ok (.ireturn, 1) := by decide +kernel
theorem s108_54 {d : Nat} {σ : am_I} {ρ : am_R} {g : am_J} {τ : am_T} {Q : am_Q} {x0 x1 x2 : Value} {v : Int32} : AW d 108 54 [x0, x1, x2] ([.int v]) σ ρ g τ Q = Q (some (.int v)) σ ρ g τ := aw_ri m108 d108_54 rfl
theorem d109_0 : decode cX11_goOn 0 = .ok (.aload_n 0, 1) := by decide +kernel
theorem s109_0 {d : Nat} {st : List Value} {σ : am_I} {ρ : am_R} {g : am_J} {τ : am_T} {Q : am_Q} {x1 : Value} {v : Nat} : AW d 109 0 [.ref v, x1] (st) σ ρ g τ Q = AW d 109 1 [.ref v, x1] (.ref v :: st) σ ρ g τ Q := aw_lc m109 d109_0 rfl rfl rfl
theorem d109_1 : decode cX11_goOn 1 = .ok (.getfield 10, 3) := by decide +kernel
theorem s109_1 {d : Nat} {st : List Value} {σ : am_I} {ρ : am_R} {g : am_J} {τ : am_T} {Q : am_Q} {x0 x1 : Value} {a : Nat} (ht : τ.1 a = 11) : AW d 109 1 [x0, x1] (.ref a :: st) σ ρ g τ Q = AW d 109 4 [x0, x1] (va_rf (ρ a 0) :: st) σ ρ g τ Q := aw_gr m109 d109_1 rfl rfl rfl ht
theorem d109_4 : decode cX11_goOn 4 = .ok (.dup, 1) := by decide +kernel
theorem s109_4 {d : Nat} {st : List Value} {σ : am_I} {ρ : am_R} {g : am_J} {τ : am_T} {Q : am_Q} {x0 x1 : Value} {v : Int32} : AW d 109 4 [x0, x1] (.int v :: st) σ ρ g τ Q = AW d 109 5 [x0, x1] (.int v :: .int v :: st) σ ρ g τ Q := aw_lc m109 d109_4 rfl rfl rfl
theorem s109_4r {d : Nat} {st : List Value} {σ : am_I} {ρ : am_R} {g : am_J} {τ : am_T} {Q : am_Q} {x0 x1 : Value} {v : Nat} : AW d 109 4 [x0, x1] (.ref v :: st) σ ρ g τ Q = AW d 109 5 [x0, x1] (.ref v :: .ref v :: st) σ ρ g τ Q := aw_lc m109 d109_4 rfl rfl rfl
theorem d109_5 : decode cX11_goOn 5 = .ok (.getfield 78, 3) := by decide +kernel
theorem s109_5 {d : Nat} {st : List Value} {σ : am_I} {ρ : am_R} {g : am_J} {τ : am_T} {Q : am_Q} {x0 x1 : Value} {a : Nat} (ht : τ.1 a = 3) : AW d 109 5 [x0, x1] (.ref a :: st) σ ρ g τ Q = AW d 109 8 [x0, x1] (.int (σ a 0) :: st) σ ρ g τ Q := aw_gi m109 d109_5 rfl rfl rfl ht
theorem d109_8 : decode cX11_goOn 8 = .ok (.iconst 1, 1) := by decide +kernel
theorem s109_8 {d : Nat} {st : List Value} {σ : am_I} {ρ : am_R} {g : am_J} {τ : am_T} {Q : am_Q} {x0 x1 : Value} : AW d 109 8 [x0, x1] (st) σ ρ g τ Q = AW d 109 9 [x0, x1] (.int 1 :: st) σ ρ g τ Q := aw_lc m109 d109_8 rfl rfl rfl
theorem d109_9 : decode cX11_goOn 9 = .ok (.iadd, 1) := by decide +kernel
theorem s109_9 {d : Nat} {st : List Value} {σ : am_I} {ρ : am_R} {g : am_J} {τ : am_T} {Q : am_Q} {x0 x1 : Value} {v w : Int32} : AW d 109 9 [x0, x1] (.int w :: .int v :: st) σ ρ g τ Q = AW d 109 10 [x0, x1] (.int (v + w) :: st) σ ρ g τ Q := aw_lc m109 d109_9 rfl rfl rfl
theorem d109_10 : decode cX11_goOn 10 = .ok (.putfield 78, 3) := by decide +kernel
theorem s109_10 {d : Nat} {st : List Value} {σ : am_I} {ρ : am_R} {g : am_J} {τ : am_T} {Q : am_Q} {x0 x1 : Value} {a : Nat} {v : Int32} (ht : τ.1 a = 3) : AW d 109 10 [x0, x1] (.int v :: .ref a :: st) σ ρ g τ Q = AW d 109 13 [x0, x1] (st) (am_u σ a 0 v) ρ g τ Q := aw_pi m109 d109_10 rfl rfl (Or.inl rfl) rfl ht
theorem d109_13 : decode cX11_goOn 13 = .ok (.iconst 0, 1) := by decide +kernel
theorem s109_13 {d : Nat} {st : List Value} {σ : am_I} {ρ : am_R} {g : am_J} {τ : am_T} {Q : am_Q} {x0 x1 : Value} : AW d 109 13 [x0, x1] (st) σ ρ g τ Q = AW d 109 14 [x0, x1] (.int 0 :: st) σ ρ g τ Q := aw_lc m109 d109_13 rfl rfl rfl
theorem d109_14 : decode cX11_goOn 14 = .ok (.istore_n 1, 1) := by decide +kernel
theorem s109_14r {d : Nat} {st : List Value} {σ : am_I} {ρ : am_R} {g : am_J} {τ : am_T} {Q : am_Q} {x1 : Value} {v : Int32} {u : Nat} : AW d 109 14 [.ref u, x1] (.int v :: st) σ ρ g τ Q = AW d 109 15 [.ref u, .int v] (st) σ ρ g τ Q := aw_lc m109 d109_14 rfl rfl rfl
theorem d109_15 : decode cX11_goOn 15 = .ok (.iload_n 1, 1) := by decide +kernel
theorem s109_15 {d : Nat} {st : List Value} {σ : am_I} {ρ : am_R} {g : am_J} {τ : am_T} {Q : am_Q} {x0 : Value} {v : Int32} : AW d 109 15 [x0, .int v] (st) σ ρ g τ Q = AW d 109 16 [x0, .int v] (.int v :: st) σ ρ g τ Q := aw_lc m109 d109_15 rfl rfl rfl
theorem d109_16 : decode cX11_goOn 16 = .ok (.iconst 3, 1) := by decide +kernel
theorem s109_16 {d : Nat} {st : List Value} {σ : am_I} {ρ : am_R} {g : am_J} {τ : am_T} {Q : am_Q} {x0 x1 : Value} : AW d 109 16 [x0, x1] (st) σ ρ g τ Q = AW d 109 17 [x0, x1] (.int 3 :: st) σ ρ g τ Q := aw_lc m109 d109_16 rfl rfl rfl
theorem d109_17 : decode cX11_goOn 17 = .ok (.if_icmp .ge 70, 3) := by decide +kernel
theorem s109_17 {d : Nat} {st : List Value} {σ : am_I} {ρ : am_R} {g : am_J} {τ : am_T} {Q : am_Q} {x0 x1 : Value} {v w : Int32} : AW d 109 17 [x0, x1] (.int w :: .int v :: st) σ ρ g τ Q = if w ≤ v then AW d 109 87 [x0, x1] (st) σ ρ g τ Q else AW d 109 20 [x0, x1] (st) σ ρ g τ Q := aw_br m109 d109_17 rfl rfl rfl
theorem d109_20 : decode cX11_goOn 20 = .ok (.aload_n 0, 1) := by decide +kernel
theorem s109_20 {d : Nat} {st : List Value} {σ : am_I} {ρ : am_R} {g : am_J} {τ : am_T} {Q : am_Q} {x1 : Value} {v : Nat} : AW d 109 20 [.ref v, x1] (st) σ ρ g τ Q = AW d 109 21 [.ref v, x1] (.ref v :: st) σ ρ g τ Q := aw_lc m109 d109_20 rfl rfl rfl
theorem d109_21 : decode cX11_goOn 21 = .ok (.getfield 33, 3) := by decide +kernel
theorem s109_21 {d : Nat} {st : List Value} {σ : am_I} {ρ : am_R} {g : am_J} {τ : am_T} {Q : am_Q} {x0 x1 : Value} {a : Nat} (ht : τ.1 a = 11) : AW d 109 21 [x0, x1] (.ref a :: st) σ ρ g τ Q = AW d 109 24 [x0, x1] (va_rf (ρ a 4) :: st) σ ρ g τ Q := aw_gr m109 d109_21 rfl rfl rfl ht
theorem d109_24 : decode cX11_goOn 24 = .ok (.aload_n 0, 1) := by decide +kernel
theorem s109_24 {d : Nat} {st : List Value} {σ : am_I} {ρ : am_R} {g : am_J} {τ : am_T} {Q : am_Q} {x1 : Value} {v : Nat} : AW d 109 24 [.ref v, x1] (st) σ ρ g τ Q = AW d 109 25 [.ref v, x1] (.ref v :: st) σ ρ g τ Q := aw_lc m109 d109_24 rfl rfl rfl
theorem d109_25 : decode cX11_goOn 25 = .ok (.getfield 10, 3) := by decide +kernel
theorem s109_25 {d : Nat} {st : List Value} {σ : am_I} {ρ : am_R} {g : am_J} {τ : am_T} {Q : am_Q} {x0 x1 : Value} {a : Nat} (ht : τ.1 a = 11) : AW d 109 25 [x0, x1] (.ref a :: st) σ ρ g τ Q = AW d 109 28 [x0, x1] (va_rf (ρ a 0) :: st) σ ρ g τ Q := aw_gr m109 d109_25 rfl rfl rfl ht
theorem d109_28 : decode cX11_goOn 28 = .ok (.iload_n 1, 1) := by decide +kernel
theorem s109_28 {d : Nat} {st : List Value} {σ : am_I} {ρ : am_R} {g : am_J} {τ : am_T} {Q : am_Q} {x0 : Value} {v : Int32} : AW d 109 28 [x0, .int v] (st) σ ρ g τ Q = AW d 109 29 [x0, .int v] (.int v :: st) σ ρ g τ Q := aw_lc m109 d109_28 rfl rfl rfl
theorem d109_29 : decode cX11_goOn 29 = .ok (.aload_n 0, 1) := by decide +kernel
theorem s109_29 {d : Nat} {st : List Value} {σ : am_I} {ρ : am_R} {g : am_J} {τ : am_T} {Q : am_Q} {x1 : Value} {v : Nat} : AW d 109 29 [.ref v, x1] (st) σ ρ g τ Q = AW d 109 30 [.ref v, x1] (.ref v :: st) σ ρ g τ Q := aw_lc m109 d109_29 rfl rfl rfl
theorem d109_30 : decode cX11_goOn 30 = .ok (.getfield 10, 3) := by decide +kernel
theorem s109_30 {d : Nat} {st : List Value} {σ : am_I} {ρ : am_R} {g : am_J} {τ : am_T} {Q : am_Q} {x0 x1 : Value} {a : Nat} (ht : τ.1 a = 11) : AW d 109 30 [x0, x1] (.ref a :: st) σ ρ g τ Q = AW d 109 33 [x0, x1] (va_rf (ρ a 0) :: st) σ ρ g τ Q := aw_gr m109 d109_30 rfl rfl rfl ht
theorem d109_33 : decode cX11_goOn 33 = .ok (.getfield 78, 3) := by decide +kernel
theorem s109_33 {d : Nat} {st : List Value} {σ : am_I} {ρ : am_R} {g : am_J} {τ : am_T} {Q : am_Q} {x0 x1 : Value} {a : Nat} (ht : τ.1 a = 3) : AW d 109 33 [x0, x1] (.ref a :: st) σ ρ g τ Q = AW d 109 36 [x0, x1] (.int (σ a 0) :: st) σ ρ g τ Q := aw_gi m109 d109_33 rfl rfl rfl ht
theorem d109_36 : decode cX11_goOn 36 = .ok (.invokevirtual 85, 3) := by decide +kernel
theorem s109_36 {d : Nat} {st : List Value} {σ : am_I} {ρ : am_R} {g : am_J} {τ : am_T} {Q : am_Q} {x0 x1 : Value} {p0 : Nat} {p1 : Nat} {p2 : Int32} {p3 : Int32} (ht : τ.1 p0 = 8) (hs : st.length ≤ 4) : AW (d + 1) 109 36 [x0, x1] (.int p3 :: .int p2 :: .ref p1 :: .ref p0 :: st) σ ρ g τ Q = AW d 64 0 [.ref p0, .ref p1, .int p2, .int p3, am_jk, am_jk, am_jk] [] σ ρ g τ (fun r9 σ ρ g τ => AW (d + 1) 109 39 [x0, x1] (r9.toList ++ st) σ ρ g τ Q) := aw_cv m109 d109_36 rfl m64 rfl rfl (by decide) en64 ok64 rfl ht hs
theorem d109_39 : decode cX11_goOn 39 = .ok (.aload_n 0, 1) := by decide +kernel
theorem s109_39 {d : Nat} {st : List Value} {σ : am_I} {ρ : am_R} {g : am_J} {τ : am_T} {Q : am_Q} {x1 : Value} {v : Nat} : AW d 109 39 [.ref v, x1] (st) σ ρ g τ Q = AW d 109 40 [.ref v, x1] (.ref v :: st) σ ρ g τ Q := aw_lc m109 d109_39 rfl rfl rfl
theorem d109_40 : decode cX11_goOn 40 = .ok (.getfield 33, 3) := by decide +kernel
theorem s109_40 {d : Nat} {st : List Value} {σ : am_I} {ρ : am_R} {g : am_J} {τ : am_T} {Q : am_Q} {x0 x1 : Value} {a : Nat} (ht : τ.1 a = 11) : AW d 109 40 [x0, x1] (.ref a :: st) σ ρ g τ Q = AW d 109 43 [x0, x1] (va_rf (ρ a 4) :: st) σ ρ g τ Q := aw_gr m109 d109_40 rfl rfl rfl ht
theorem d109_43 : decode cX11_goOn 43 = .ok (.aload_n 0, 1) := by decide +kernel
theorem s109_43 {d : Nat} {st : List Value} {σ : am_I} {ρ : am_R} {g : am_J} {τ : am_T} {Q : am_Q} {x1 : Value} {v : Nat} : AW d 109 43 [.ref v, x1] (st) σ ρ g τ Q = AW d 109 44 [.ref v, x1] (.ref v :: st) σ ρ g τ Q := aw_lc m109 d109_43 rfl rfl rfl
theorem d109_44 : decode cX11_goOn 44 = .ok (.getfield 10, 3) := by decide +kernel
theorem s109_44 {d : Nat} {st : List Value} {σ : am_I} {ρ : am_R} {g : am_J} {τ : am_T} {Q : am_Q} {x0 x1 : Value} {a : Nat} (ht : τ.1 a = 11) : AW d 109 44 [x0, x1] (.ref a :: st) σ ρ g τ Q = AW d 109 47 [x0, x1] (va_rf (ρ a 0) :: st) σ ρ g τ Q := aw_gr m109 d109_44 rfl rfl rfl ht
theorem d109_47 : decode cX11_goOn 47 = .ok (.iload_n 1, 1) := by decide +kernel
theorem s109_47 {d : Nat} {st : List Value} {σ : am_I} {ρ : am_R} {g : am_J} {τ : am_T} {Q : am_Q} {x0 : Value} {v : Int32} : AW d 109 47 [x0, .int v] (st) σ ρ g τ Q = AW d 109 48 [x0, .int v] (.int v :: st) σ ρ g τ Q := aw_lc m109 d109_47 rfl rfl rfl
theorem d109_48 : decode cX11_goOn 48 = .ok (.aload_n 0, 1) := by decide +kernel
theorem s109_48 {d : Nat} {st : List Value} {σ : am_I} {ρ : am_R} {g : am_J} {τ : am_T} {Q : am_Q} {x1 : Value} {v : Nat} : AW d 109 48 [.ref v, x1] (st) σ ρ g τ Q = AW d 109 49 [.ref v, x1] (.ref v :: st) σ ρ g τ Q := aw_lc m109 d109_48 rfl rfl rfl
theorem d109_49 : decode cX11_goOn 49 = .ok (.getfield 10, 3) := by decide +kernel
theorem s109_49 {d : Nat} {st : List Value} {σ : am_I} {ρ : am_R} {g : am_J} {τ : am_T} {Q : am_Q} {x0 x1 : Value} {a : Nat} (ht : τ.1 a = 11) : AW d 109 49 [x0, x1] (.ref a :: st) σ ρ g τ Q = AW d 109 52 [x0, x1] (va_rf (ρ a 0) :: st) σ ρ g τ Q := aw_gr m109 d109_49 rfl rfl rfl ht
theorem d109_52 : decode cX11_goOn 52 = .ok (.getfield 78, 3) := by decide +kernel
theorem s109_52 {d : Nat} {st : List Value} {σ : am_I} {ρ : am_R} {g : am_J} {τ : am_T} {Q : am_Q} {x0 x1 : Value} {a : Nat} (ht : τ.1 a = 3) : AW d 109 52 [x0, x1] (.ref a :: st) σ ρ g τ Q = AW d 109 55 [x0, x1] (.int (σ a 0) :: st) σ ρ g τ Q := aw_gi m109 d109_52 rfl rfl rfl ht
theorem d109_55 : decode cX11_goOn 55 = .ok (.aload_n 0, 1) := by decide +kernel
theorem s109_55 {d : Nat} {st : List Value} {σ : am_I} {ρ : am_R} {g : am_J} {τ : am_T} {Q : am_Q} {x1 : Value} {v : Nat} : AW d 109 55 [.ref v, x1] (st) σ ρ g τ Q = AW d 109 56 [.ref v, x1] (.ref v :: st) σ ρ g τ Q := aw_lc m109 d109_55 rfl rfl rfl
theorem d109_56 : decode cX11_goOn 56 = .ok (.getfield 10, 3) := by decide +kernel
theorem s109_56 {d : Nat} {st : List Value} {σ : am_I} {ρ : am_R} {g : am_J} {τ : am_T} {Q : am_Q} {x0 x1 : Value} {a : Nat} (ht : τ.1 a = 11) : AW d 109 56 [x0, x1] (.ref a :: st) σ ρ g τ Q = AW d 109 59 [x0, x1] (va_rf (ρ a 0) :: st) σ ρ g τ Q := aw_gr m109 d109_56 rfl rfl rfl ht
theorem d109_59 : decode cX11_goOn 59 = .ok (.getfield 89, 3) := by decide +kernel
theorem s109_59 {d : Nat} {st : List Value} {σ : am_I} {ρ : am_R} {g : am_J} {τ : am_T} {Q : am_Q} {x0 x1 : Value} {a : Nat} (ht : τ.1 a = 3) : AW d 109 59 [x0, x1] (.ref a :: st) σ ρ g τ Q = AW d 109 62 [x0, x1] (va_rf (ρ a 2) :: st) σ ρ g τ Q := aw_gr m109 d109_59 rfl rfl rfl ht
theorem d109_62 : decode cX11_goOn 62 = .ok (.iload_n 1, 1) := by decide +kernel
theorem s109_62 {d : Nat} {st : List Value} {σ : am_I} {ρ : am_R} {g : am_J} {τ : am_T} {Q : am_Q} {x0 : Value} {v : Int32} : AW d 109 62 [x0, .int v] (st) σ ρ g τ Q = AW d 109 63 [x0, .int v] (.int v :: st) σ ρ g τ Q := aw_lc m109 d109_62 rfl rfl rfl
theorem d109_63 : decode cX11_goOn 63 = .ok (.iaload, 1) := by decide +kernel
theorem s109_63 {d : Nat} {st : List Value} {σ : am_I} {ρ : am_R} {g : am_J} {τ : am_T} {Q : am_Q} {x0 x1 : Value} {a : Nat} {j : Int32} (ht : τ.1 a = 15) (hj : am_inb j (τ.2.1 a) = true) : AW d 109 63 [x0, x1] (.int j :: .ref a :: st) σ ρ g τ Q = AW d 109 64 [x0, x1] (.int (σ a j.toNatClampNeg) :: st) σ ρ g τ Q := aw_ial m109 d109_63 rfl ht hj
theorem d109_64 : decode cX11_goOn 64 = .ok (.invokevirtual 92, 3) := by decide +kernel
theorem s109_64 {d : Nat} {st : List Value} {σ : am_I} {ρ : am_R} {g : am_J} {τ : am_T} {Q : am_Q} {x0 x1 : Value} {p0 : Nat} {p1 : Int32} {p2 : Int32} {p3 : Int32} (ht : τ.1 p0 = 3) (hs : st.length ≤ 4) : AW (d + 1) 109 64 [x0, x1] (.int p3 :: .int p2 :: .int p1 :: .ref p0 :: st) σ ρ g τ Q = AW d 29 0 [.ref p0, .int p1, .int p2, .int p3, am_jk, am_jk, am_jk] [] σ ρ g τ (fun r9 σ ρ g τ => AW (d + 1) 109 67 [x0, x1] (r9.toList ++ st) σ ρ g τ Q) := aw_cv m109 d109_64 rfl m29 rfl rfl (by decide) en29 ok29 rfl ht hs
theorem d109_67 : decode cX11_goOn 67 = .ok (.invokevirtual 96, 3) := by decide +kernel
theorem s109_67 {d : Nat} {st : List Value} {σ : am_I} {ρ : am_R} {g : am_J} {τ : am_T} {Q : am_Q} {x0 x1 : Value} {p0 : Nat} {p1 : Int32} (ht : τ.1 p0 = 8) (hs : st.length ≤ 4) : AW (d + 1) 109 67 [x0, x1] (.int p1 :: .ref p0 :: st) σ ρ g τ Q = AW d 65 0 [.ref p0, .int p1, am_jk, am_jk, am_jk] [] σ ρ g τ (fun r9 σ ρ g τ => AW (d + 1) 109 70 [x0, x1] (r9.toList ++ st) σ ρ g τ Q) := aw_cv m109 d109_67 rfl m65 rfl rfl (by decide) en65 ok65 rfl ht hs
theorem d109_70 : decode cX11_goOn 70 = .ok (.aload_n 0, 1) := by decide +kernel
theorem s109_70 {d : Nat} {st : List Value} {σ : am_I} {ρ : am_R} {g : am_J} {τ : am_T} {Q : am_Q} {x1 : Value} {v : Nat} : AW d 109 70 [.ref v, x1] (st) σ ρ g τ Q = AW d 109 71 [.ref v, x1] (.ref v :: st) σ ρ g τ Q := aw_lc m109 d109_70 rfl rfl rfl
theorem d109_71 : decode cX11_goOn 71 = .ok (.getfield 33, 3) := by decide +kernel
theorem s109_71 {d : Nat} {st : List Value} {σ : am_I} {ρ : am_R} {g : am_J} {τ : am_T} {Q : am_Q} {x0 x1 : Value} {a : Nat} (ht : τ.1 a = 11) : AW d 109 71 [x0, x1] (.ref a :: st) σ ρ g τ Q = AW d 109 74 [x0, x1] (va_rf (ρ a 4) :: st) σ ρ g τ Q := aw_gr m109 d109_71 rfl rfl rfl ht
theorem d109_74 : decode cX11_goOn 74 = .ok (.aload_n 0, 1) := by decide +kernel
theorem s109_74 {d : Nat} {st : List Value} {σ : am_I} {ρ : am_R} {g : am_J} {τ : am_T} {Q : am_Q} {x1 : Value} {v : Nat} : AW d 109 74 [.ref v, x1] (st) σ ρ g τ Q = AW d 109 75 [.ref v, x1] (.ref v :: st) σ ρ g τ Q := aw_lc m109 d109_74 rfl rfl rfl
theorem d109_75 : decode cX11_goOn 75 = .ok (.getfield 10, 3) := by decide +kernel
theorem s109_75 {d : Nat} {st : List Value} {σ : am_I} {ρ : am_R} {g : am_J} {τ : am_T} {Q : am_Q} {x0 x1 : Value} {a : Nat} (ht : τ.1 a = 11) : AW d 109 75 [x0, x1] (.ref a :: st) σ ρ g τ Q = AW d 109 78 [x0, x1] (va_rf (ρ a 0) :: st) σ ρ g τ Q := aw_gr m109 d109_75 rfl rfl rfl ht
theorem d109_78 : decode cX11_goOn 78 = .ok (.invokevirtual 100, 3) := by decide +kernel
theorem s109_78 {d : Nat} {st : List Value} {σ : am_I} {ρ : am_R} {g : am_J} {τ : am_T} {Q : am_Q} {x0 x1 : Value} {p0 : Nat} {p1 : Nat} (ht : τ.1 p0 = 8) (hs : st.length ≤ 4) : AW (d + 1) 109 78 [x0, x1] (.ref p1 :: .ref p0 :: st) σ ρ g τ Q = AW d 67 0 [.ref p0, .ref p1, am_jk] [] σ ρ g τ (fun r9 σ ρ g τ => AW (d + 1) 109 81 [x0, x1] (r9.toList ++ st) σ ρ g τ Q) := aw_cv m109 d109_78 rfl m67 rfl rfl (by decide) en67 ok67 rfl ht hs
theorem d109_81 : decode cX11_goOn 81 = .ok (.iinc 1 1, 3) := by decide +kernel
theorem s109_81r {d : Nat} {st : List Value} {σ : am_I} {ρ : am_R} {g : am_J} {τ : am_T} {Q : am_Q} {v : Int32} {u : Nat} : AW d 109 81 [.ref u, .int v] (st) σ ρ g τ Q = AW d 109 84 [.ref u, .int (v + 1)] (st) σ ρ g τ Q := aw_lc m109 d109_81 rfl rfl rfl
theorem d109_84 : decode cX11_goOn 84 = .ok (.goto (-69), 3) := by decide +kernel
theorem s109_84 {d : Nat} {st : List Value} {σ : am_I} {ρ : am_R} {g : am_J} {τ : am_T} {Q : am_Q} {x0 x1 : Value} : AW d 109 84 [x0, x1] (st) σ ρ g τ Q = AW d 109 15 [x0, x1] (st) σ ρ g τ Q := aw_lc m109 d109_84 rfl rfl rfl
theorem d109_87 : decode cX11_goOn 87 = .ok (.aload_n 0, 1) := by decide +kernel
theorem s109_87 {d : Nat} {st : List Value} {σ : am_I} {ρ : am_R} {g : am_J} {τ : am_T} {Q : am_Q} {x1 : Value} {v : Nat} : AW d 109 87 [.ref v, x1] (st) σ ρ g τ Q = AW d 109 88 [.ref v, x1] (.ref v :: st) σ ρ g τ Q := aw_lc m109 d109_87 rfl rfl rfl
theorem d109_88 : decode cX11_goOn 88 = .ok (.getfield 10, 3) := by decide +kernel
theorem s109_88 {d : Nat} {st : List Value} {σ : am_I} {ρ : am_R} {g : am_J} {τ : am_T} {Q : am_Q} {x0 x1 : Value} {a : Nat} (ht : τ.1 a = 11) : AW d 109 88 [x0, x1] (.ref a :: st) σ ρ g τ Q = AW d 109 91 [x0, x1] (va_rf (ρ a 0) :: st) σ ρ g τ Q := aw_gr m109 d109_88 rfl rfl rfl ht
theorem d109_91 : decode cX11_goOn 91 = .ok (.invokevirtual 104, 3) := by decide +kernel
theorem s109_91 {d : Nat} {st : List Value} {σ : am_I} {ρ : am_R} {g : am_J} {τ : am_T} {Q : am_Q} {x0 x1 : Value} {p0 : Nat} (ht : τ.1 p0 = 3) (hs : st.length ≤ 4) : AW (d + 1) 109 91 [x0, x1] (.ref p0 :: st) σ ρ g τ Q = AW d 32 0 [.ref p0, am_jk] [] σ ρ g τ (fun r9 σ ρ g τ => AW (d + 1) 109 94 [x0, x1] (r9.toList ++ st) σ ρ g τ Q) := aw_cv m109 d109_91 rfl m32 rfl rfl (by decide) en32 ok32 rfl ht hs
theorem d109_94 : decode cX11_goOn 94 = .ok (.aload_n 0, 1) := by decide +kernel
theorem s109_94 {d : Nat} {st : List Value} {σ : am_I} {ρ : am_R} {g : am_J} {τ : am_T} {Q : am_Q} {x1 : Value} {v : Nat} : AW d 109 94 [.ref v, x1] (st) σ ρ g τ Q = AW d 109 95 [.ref v, x1] (.ref v :: st) σ ρ g τ Q := aw_lc m109 d109_94 rfl rfl rfl
theorem d109_95 : decode cX11_goOn 95 = .ok (.getfield 10, 3) := by decide +kernel
theorem s109_95 {d : Nat} {st : List Value} {σ : am_I} {ρ : am_R} {g : am_J} {τ : am_T} {Q : am_Q} {x0 x1 : Value} {a : Nat} (ht : τ.1 a = 11) : AW d 109 95 [x0, x1] (.ref a :: st) σ ρ g τ Q = AW d 109 98 [x0, x1] (va_rf (ρ a 0) :: st) σ ρ g τ Q := aw_gr m109 d109_95 rfl rfl rfl ht
theorem d109_98 : decode cX11_goOn 98 = .ok (.invokevirtual 107, 3) := by decide +kernel
theorem s109_98 {d : Nat} {st : List Value} {σ : am_I} {ρ : am_R} {g : am_J} {τ : am_T} {Q : am_Q} {x0 x1 : Value} {p0 : Nat} (ht : τ.1 p0 = 3) (hs : st.length ≤ 4) : AW (d + 1) 109 98 [x0, x1] (.ref p0 :: st) σ ρ g τ Q = AW d 33 0 [.ref p0, am_jk] [] σ ρ g τ (fun r9 σ ρ g τ => AW (d + 1) 109 101 [x0, x1] (r9.toList ++ st) σ ρ g τ Q) := aw_cv m109 d109_98 rfl m33 rfl rfl (by decide) en33 ok33 rfl ht hs
theorem d109_101 : decode cX11_goOn 101 = .ok (.return_, 1) := by decide +kernel
theorem s109_101 {d : Nat} {σ : am_I} {ρ : am_R} {g : am_J} {τ : am_T} {Q : am_Q} {x0 x1 : Value} : AW d 109 101 [x0, x1] ([]) σ ρ g τ Q = Q none σ ρ g τ := aw_rv m109 d109_101 rfl
theorem d110_0 : decode cX11_province 0 = .ok (.iload_n 1, 1) := by decide +kernel
theorem s110_0 {d : Nat} {st : List Value} {σ : am_I} {ρ : am_R} {g : am_J} {τ : am_T} {Q : am_Q} {x0 x2 : Value} {v : Int32} : AW d 110 0 [x0, .int v, x2] (st) σ ρ g τ Q = AW d 110 1 [x0, .int v, x2] (.int v :: st) σ ρ g τ Q := aw_lc m110 d110_0 rfl rfl rfl
theorem d110_1 : decode cX11_province 1 = .ok (.iconst 0, 1) := by decide +kernel
theorem s110_1 {d : Nat} {st : List Value} {σ : am_I} {ρ : am_R} {g : am_J} {τ : am_T} {Q : am_Q} {x0 x1 x2 : Value} : AW d 110 1 [x0, x1, x2] (st) σ ρ g τ Q = AW d 110 2 [x0, x1, x2] (.int 0 :: st) σ ρ g τ Q := aw_lc m110 d110_1 rfl rfl rfl
theorem d110_2 : decode cX11_province 2 = .ok (.bipush 99, 2) := by decide +kernel
theorem s110_2 {d : Nat} {st : List Value} {σ : am_I} {ρ : am_R} {g : am_J} {τ : am_T} {Q : am_Q} {x0 x1 x2 : Value} : AW d 110 2 [x0, x1, x2] (st) σ ρ g τ Q = AW d 110 4 [x0, x1, x2] (.int 99 :: st) σ ρ g τ Q := aw_lc m110 d110_2 rfl rfl rfl
theorem d110_4 : decode cX11_province 4 = .ok (.invokestatic 74, 3) := by decide +kernel
theorem s110_4 {d : Nat} {st : List Value} {σ : am_I} {ρ : am_R} {g : am_J} {τ : am_T} {Q : am_Q} {x0 x1 x2 : Value} {p0 : Int32} {p1 : Int32} {p2 : Int32} (hs : st.length ≤ 4) : AW (d + 1) 110 4 [x0, x1, x2] (.int p2 :: .int p1 :: .int p0 :: st) σ ρ g τ Q = AW d 100 0 [.int p0, .int p1, .int p2] [] σ ρ g τ (fun r9 σ ρ g τ => AW (d + 1) 110 7 [x0, x1, x2] (r9.toList ++ st) σ ρ g τ Q) := aw_cs m110 d110_4 rfl (by simp only [List.length_cons]; omega) rfl rfl en100 ok100 rfl hs
theorem d110_7 : decode cX11_province 7 = .ok (.ifCond .eq 13, 3) := by decide +kernel
theorem s110_7 {d : Nat} {st : List Value} {σ : am_I} {ρ : am_R} {g : am_J} {τ : am_T} {Q : am_Q} {x0 x1 x2 : Value} {v : Int32} : AW d 110 7 [x0, x1, x2] (.int v :: st) σ ρ g τ Q = if v = 0 then AW d 110 20 [x0, x1, x2] (st) σ ρ g τ Q else AW d 110 10 [x0, x1, x2] (st) σ ρ g τ Q := aw_br m110 d110_7 rfl rfl rfl
theorem d110_10 : decode cX11_province 10 = .ok (.iload_n 2, 1) := by decide +kernel
theorem s110_10 {d : Nat} {st : List Value} {σ : am_I} {ρ : am_R} {g : am_J} {τ : am_T} {Q : am_Q} {x0 x1 : Value} {v : Int32} : AW d 110 10 [x0, x1, .int v] (st) σ ρ g τ Q = AW d 110 11 [x0, x1, .int v] (.int v :: st) σ ρ g τ Q := aw_lc m110 d110_10 rfl rfl rfl
theorem d110_11 : decode cX11_province 11 = .ok (.iconst 1, 1) := by decide +kernel
theorem s110_11 {d : Nat} {st : List Value} {σ : am_I} {ρ : am_R} {g : am_J} {τ : am_T} {Q : am_Q} {x0 x1 x2 : Value} : AW d 110 11 [x0, x1, x2] (st) σ ρ g τ Q = AW d 110 12 [x0, x1, x2] (.int 1 :: st) σ ρ g τ Q := aw_lc m110 d110_11 rfl rfl rfl
theorem d110_12 : decode cX11_province 12 = .ok (.bipush 12, 2) := by decide +kernel
theorem s110_12 {d : Nat} {st : List Value} {σ : am_I} {ρ : am_R} {g : am_J} {τ : am_T} {Q : am_Q} {x0 x1 x2 : Value} : AW d 110 12 [x0, x1, x2] (st) σ ρ g τ Q = AW d 110 14 [x0, x1, x2] (.int 12 :: st) σ ρ g τ Q := aw_lc m110 d110_12 rfl rfl rfl
theorem d110_14 : decode cX11_province 14 = .ok (.invokestatic 74, 3) := by decide +kernel
theorem s110_14 {d : Nat} {st : List Value} {σ : am_I} {ρ : am_R} {g : am_J} {τ : am_T} {Q : am_Q} {x0 x1 x2 : Value} {p0 : Int32} {p1 : Int32} {p2 : Int32} (hs : st.length ≤ 4) : AW (d + 1) 110 14 [x0, x1, x2] (.int p2 :: .int p1 :: .int p0 :: st) σ ρ g τ Q = AW d 100 0 [.int p0, .int p1, .int p2] [] σ ρ g τ (fun r9 σ ρ g τ => AW (d + 1) 110 17 [x0, x1, x2] (r9.toList ++ st) σ ρ g τ Q) := aw_cs m110 d110_14 rfl (by simp only [List.length_cons]; omega) rfl rfl en100 ok100 rfl hs
theorem d110_17 : decode cX11_province 17 = .ok (.ifCond .ne 5, 3) := by decide +kernel
theorem s110_17 {d : Nat} {st : List Value} {σ : am_I} {ρ : am_R} {g : am_J} {τ : am_T} {Q : am_Q} {x0 x1 x2 : Value} {v : Int32} : AW d 110 17 [x0, x1, x2] (.int v :: st) σ ρ g τ Q = if ¬ v = 0 then AW d 110 22 [x0, x1, x2] (st) σ ρ g τ Q else AW d 110 20 [x0, x1, x2] (st) σ ρ g τ Q := aw_br m110 d110_17 rfl rfl rfl
theorem d110_20 : decode cX11_province 20 = .ok (.iconst (-1), 1) := by decide +kernel
theorem s110_20 {d : Nat} {st : List Value} {σ : am_I} {ρ : am_R} {g : am_J} {τ : am_T} {Q : am_Q} {x0 x1 x2 : Value} : AW d 110 20 [x0, x1, x2] (st) σ ρ g τ Q = AW d 110 21 [x0, x1, x2] (.int (-1) :: st) σ ρ g τ Q := aw_lc m110 d110_20 rfl rfl rfl
theorem d110_21 : decode cX11_province 21 = .ok (.ireturn, 1) := by decide +kernel
theorem s110_21 {d : Nat} {σ : am_I} {ρ : am_R} {g : am_J} {τ : am_T} {Q : am_Q} {x0 x1 x2 : Value} {v : Int32} : AW d 110 21 [x0, x1, x2] ([.int v]) σ ρ g τ Q = Q (some (.int v)) σ ρ g τ := aw_ri m110 d110_21 rfl
theorem d110_22 : decode cX11_province 22 = .ok (.aload_n 0, 1) := by decide +kernel
theorem s110_22 {d : Nat} {st : List Value} {σ : am_I} {ρ : am_R} {g : am_J} {τ : am_T} {Q : am_Q} {x1 x2 : Value} {v : Nat} : AW d 110 22 [.ref v, x1, x2] (st) σ ρ g τ Q = AW d 110 23 [.ref v, x1, x2] (.ref v :: st) σ ρ g τ Q := aw_lc m110 d110_22 rfl rfl rfl
theorem d110_23 : decode cX11_province 23 = .ok (.getfield 10, 3) := by decide +kernel
theorem s110_23 {d : Nat} {st : List Value} {σ : am_I} {ρ : am_R} {g : am_J} {τ : am_T} {Q : am_Q} {x0 x1 x2 : Value} {a : Nat} (ht : τ.1 a = 11) : AW d 110 23 [x0, x1, x2] (.ref a :: st) σ ρ g τ Q = AW d 110 26 [x0, x1, x2] (va_rf (ρ a 0) :: st) σ ρ g τ Q := aw_gr m110 d110_23 rfl rfl rfl ht
theorem d110_26 : decode cX11_province 26 = .ok (.getfield 110, 3) := by decide +kernel
theorem s110_26 {d : Nat} {st : List Value} {σ : am_I} {ρ : am_R} {g : am_J} {τ : am_T} {Q : am_Q} {x0 x1 x2 : Value} {a : Nat} (ht : τ.1 a = 3) : AW d 110 26 [x0, x1, x2] (.ref a :: st) σ ρ g τ Q = AW d 110 29 [x0, x1, x2] (.int (σ a 6) :: st) σ ρ g τ Q := aw_gi m110 d110_26 rfl rfl rfl ht
theorem d110_29 : decode cX11_province 29 = .ok (.bipush 8, 2) := by decide +kernel
theorem s110_29 {d : Nat} {st : List Value} {σ : am_I} {ρ : am_R} {g : am_J} {τ : am_T} {Q : am_Q} {x0 x1 x2 : Value} : AW d 110 29 [x0, x1, x2] (st) σ ρ g τ Q = AW d 110 31 [x0, x1, x2] (.int 8 :: st) σ ρ g τ Q := aw_lc m110 d110_29 rfl rfl rfl
theorem d110_31 : decode cX11_province 31 = .ok (.if_icmp .lt 6, 3) := by decide +kernel
theorem s110_31 {d : Nat} {st : List Value} {σ : am_I} {ρ : am_R} {g : am_J} {τ : am_T} {Q : am_Q} {x0 x1 x2 : Value} {v w : Int32} : AW d 110 31 [x0, x1, x2] (.int w :: .int v :: st) σ ρ g τ Q = if v < w then AW d 110 37 [x0, x1, x2] (st) σ ρ g τ Q else AW d 110 34 [x0, x1, x2] (st) σ ρ g τ Q := aw_br m110 d110_31 rfl rfl rfl
theorem d110_34 : decode cX11_province 34 = .ok (.bipush (-2), 2) := by decide +kernel
theorem s110_34 {d : Nat} {st : List Value} {σ : am_I} {ρ : am_R} {g : am_J} {τ : am_T} {Q : am_Q} {x0 x1 x2 : Value} : AW d 110 34 [x0, x1, x2] (st) σ ρ g τ Q = AW d 110 36 [x0, x1, x2] (.int (-2) :: st) σ ρ g τ Q := aw_lc m110 d110_34 rfl rfl rfl
theorem d110_36 : decode cX11_province 36 = .ok (.ireturn, 1) := by decide +kernel
theorem s110_36 {d : Nat} {σ : am_I} {ρ : am_R} {g : am_J} {τ : am_T} {Q : am_Q} {x0 x1 x2 : Value} {v : Int32} : AW d 110 36 [x0, x1, x2] ([.int v]) σ ρ g τ Q = Q (some (.int v)) σ ρ g τ := aw_ri m110 d110_36 rfl
theorem d110_37 : decode cX11_province 37 = .ok (.aload_n 0, 1) := by decide +kernel
theorem s110_37 {d : Nat} {st : List Value} {σ : am_I} {ρ : am_R} {g : am_J} {τ : am_T} {Q : am_Q} {x1 x2 : Value} {v : Nat} : AW d 110 37 [.ref v, x1, x2] (st) σ ρ g τ Q = AW d 110 38 [.ref v, x1, x2] (.ref v :: st) σ ρ g τ Q := aw_lc m110 d110_37 rfl rfl rfl
theorem d110_38 : decode cX11_province 38 = .ok (.getfield 10, 3) := by decide +kernel
theorem s110_38 {d : Nat} {st : List Value} {σ : am_I} {ρ : am_R} {g : am_J} {τ : am_T} {Q : am_Q} {x0 x1 x2 : Value} {a : Nat} (ht : τ.1 a = 11) : AW d 110 38 [x0, x1, x2] (.ref a :: st) σ ρ g τ Q = AW d 110 41 [x0, x1, x2] (va_rf (ρ a 0) :: st) σ ρ g τ Q := aw_gr m110 d110_38 rfl rfl rfl ht
theorem d110_41 : decode cX11_province 41 = .ok (.getfield 113, 3) := by decide +kernel
theorem s110_41 {d : Nat} {st : List Value} {σ : am_I} {ρ : am_R} {g : am_J} {τ : am_T} {Q : am_Q} {x0 x1 x2 : Value} {a : Nat} (ht : τ.1 a = 3) : AW d 110 41 [x0, x1, x2] (.ref a :: st) σ ρ g τ Q = AW d 110 44 [x0, x1, x2] (va_rf (ρ a 5) :: st) σ ρ g τ Q := aw_gr m110 d110_41 rfl rfl rfl ht
theorem d110_44 : decode cX11_province 44 = .ok (.aload_n 0, 1) := by decide +kernel
theorem s110_44 {d : Nat} {st : List Value} {σ : am_I} {ρ : am_R} {g : am_J} {τ : am_T} {Q : am_Q} {x1 x2 : Value} {v : Nat} : AW d 110 44 [.ref v, x1, x2] (st) σ ρ g τ Q = AW d 110 45 [.ref v, x1, x2] (.ref v :: st) σ ρ g τ Q := aw_lc m110 d110_44 rfl rfl rfl
theorem d110_45 : decode cX11_province 45 = .ok (.getfield 10, 3) := by decide +kernel
theorem s110_45 {d : Nat} {st : List Value} {σ : am_I} {ρ : am_R} {g : am_J} {τ : am_T} {Q : am_Q} {x0 x1 x2 : Value} {a : Nat} (ht : τ.1 a = 11) : AW d 110 45 [x0, x1, x2] (.ref a :: st) σ ρ g τ Q = AW d 110 48 [x0, x1, x2] (va_rf (ρ a 0) :: st) σ ρ g τ Q := aw_gr m110 d110_45 rfl rfl rfl ht
theorem d110_48 : decode cX11_province 48 = .ok (.getfield 110, 3) := by decide +kernel
theorem s110_48 {d : Nat} {st : List Value} {σ : am_I} {ρ : am_R} {g : am_J} {τ : am_T} {Q : am_Q} {x0 x1 x2 : Value} {a : Nat} (ht : τ.1 a = 3) : AW d 110 48 [x0, x1, x2] (.ref a :: st) σ ρ g τ Q = AW d 110 51 [x0, x1, x2] (.int (σ a 6) :: st) σ ρ g τ Q := aw_gi m110 d110_48 rfl rfl rfl ht
theorem d110_51 : decode cX11_province 51 = .ok (.aaload, 1) := by decide +kernel
theorem s110_51 {d : Nat} {st : List Value} {σ : am_I} {ρ : am_R} {g : am_J} {τ : am_T} {Q : am_Q} {x0 x1 x2 : Value} {a : Nat} {j : Int32} (ht : 18 ≤ τ.1 a ∧ τ.1 a ≤ 22) (hj : am_inb j (τ.2.1 a) = true) : AW d 110 51 [x0, x1, x2] (.int j :: .ref a :: st) σ ρ g τ Q = AW d 110 52 [x0, x1, x2] (va_rf (ρ a j.toNatClampNeg) :: st) σ ρ g τ Q := aw_aal m110 d110_51 rfl ht hj
theorem d110_52 : decode cX11_province 52 = .ok (.iload_n 1, 1) := by decide +kernel
theorem s110_52 {d : Nat} {st : List Value} {σ : am_I} {ρ : am_R} {g : am_J} {τ : am_T} {Q : am_Q} {x0 x2 : Value} {v : Int32} : AW d 110 52 [x0, .int v, x2] (st) σ ρ g τ Q = AW d 110 53 [x0, .int v, x2] (.int v :: st) σ ρ g τ Q := aw_lc m110 d110_52 rfl rfl rfl
theorem d110_53 : decode cX11_province 53 = .ok (.iload_n 2, 1) := by decide +kernel
theorem s110_53 {d : Nat} {st : List Value} {σ : am_I} {ρ : am_R} {g : am_J} {τ : am_T} {Q : am_Q} {x0 x1 : Value} {v : Int32} : AW d 110 53 [x0, x1, .int v] (st) σ ρ g τ Q = AW d 110 54 [x0, x1, .int v] (.int v :: st) σ ρ g τ Q := aw_lc m110 d110_53 rfl rfl rfl
theorem d110_54 : decode cX11_province 54 = .ok (.invokevirtual 117, 3) := by decide +kernel
theorem s110_54 {d : Nat} {st : List Value} {σ : am_I} {ρ : am_R} {g : am_J} {τ : am_T} {Q : am_Q} {x0 x1 x2 : Value} {p0 : Nat} {p1 : Int32} {p2 : Int32} (ht : τ.1 p0 = 7) (hs : st.length ≤ 4) : AW (d + 1) 110 54 [x0, x1, x2] (.int p2 :: .int p1 :: .ref p0 :: st) σ ρ g τ Q = AW d 60 0 [.ref p0, .int p1, .int p2] [] σ ρ g τ (fun r9 σ ρ g τ => AW (d + 1) 110 57 [x0, x1, x2] (r9.toList ++ st) σ ρ g τ Q) := aw_cv m110 d110_54 rfl m60 rfl rfl (by decide) en60 ok60 rfl ht hs
theorem d110_57 : decode cX11_province 57 = .ok (.aload_n 0, 1) := by decide +kernel
theorem s110_57 {d : Nat} {st : List Value} {σ : am_I} {ρ : am_R} {g : am_J} {τ : am_T} {Q : am_Q} {x1 x2 : Value} {v : Nat} : AW d 110 57 [.ref v, x1, x2] (st) σ ρ g τ Q = AW d 110 58 [.ref v, x1, x2] (.ref v :: st) σ ρ g τ Q := aw_lc m110 d110_57 rfl rfl rfl
theorem d110_58 : decode cX11_province 58 = .ok (.getfield 10, 3) := by decide +kernel
theorem s110_58 {d : Nat} {st : List Value} {σ : am_I} {ρ : am_R} {g : am_J} {τ : am_T} {Q : am_Q} {x0 x1 x2 : Value} {a : Nat} (ht : τ.1 a = 11) : AW d 110 58 [x0, x1, x2] (.ref a :: st) σ ρ g τ Q = AW d 110 61 [x0, x1, x2] (va_rf (ρ a 0) :: st) σ ρ g τ Q := aw_gr m110 d110_58 rfl rfl rfl ht
theorem d110_61 : decode cX11_province 61 = .ok (.dup, 1) := by decide +kernel
theorem s110_61 {d : Nat} {st : List Value} {σ : am_I} {ρ : am_R} {g : am_J} {τ : am_T} {Q : am_Q} {x0 x1 x2 : Value} {v : Int32} : AW d 110 61 [x0, x1, x2] (.int v :: st) σ ρ g τ Q = AW d 110 62 [x0, x1, x2] (.int v :: .int v :: st) σ ρ g τ Q := aw_lc m110 d110_61 rfl rfl rfl
theorem s110_61r {d : Nat} {st : List Value} {σ : am_I} {ρ : am_R} {g : am_J} {τ : am_T} {Q : am_Q} {x0 x1 x2 : Value} {v : Nat} : AW d 110 61 [x0, x1, x2] (.ref v :: st) σ ρ g τ Q = AW d 110 62 [x0, x1, x2] (.ref v :: .ref v :: st) σ ρ g τ Q := aw_lc m110 d110_61 rfl rfl rfl
theorem d110_62 : decode cX11_province 62 = .ok (.getfield 110, 3) := by decide +kernel
theorem s110_62 {d : Nat} {st : List Value} {σ : am_I} {ρ : am_R} {g : am_J} {τ : am_T} {Q : am_Q} {x0 x1 x2 : Value} {a : Nat} (ht : τ.1 a = 3) : AW d 110 62 [x0, x1, x2] (.ref a :: st) σ ρ g τ Q = AW d 110 65 [x0, x1, x2] (.int (σ a 6) :: st) σ ρ g τ Q := aw_gi m110 d110_62 rfl rfl rfl ht
theorem d110_65 : decode cX11_province 65 = .ok (.iconst 1, 1) := by decide +kernel
theorem s110_65 {d : Nat} {st : List Value} {σ : am_I} {ρ : am_R} {g : am_J} {τ : am_T} {Q : am_Q} {x0 x1 x2 : Value} : AW d 110 65 [x0, x1, x2] (st) σ ρ g τ Q = AW d 110 66 [x0, x1, x2] (.int 1 :: st) σ ρ g τ Q := aw_lc m110 d110_65 rfl rfl rfl
theorem d110_66 : decode cX11_province 66 = .ok (.iadd, 1) := by decide +kernel
theorem s110_66 {d : Nat} {st : List Value} {σ : am_I} {ρ : am_R} {g : am_J} {τ : am_T} {Q : am_Q} {x0 x1 x2 : Value} {v w : Int32} : AW d 110 66 [x0, x1, x2] (.int w :: .int v :: st) σ ρ g τ Q = AW d 110 67 [x0, x1, x2] (.int (v + w) :: st) σ ρ g τ Q := aw_lc m110 d110_66 rfl rfl rfl
theorem d110_67 : decode cX11_province 67 = .ok (.putfield 110, 3) := by decide +kernel
theorem s110_67 {d : Nat} {st : List Value} {σ : am_I} {ρ : am_R} {g : am_J} {τ : am_T} {Q : am_Q} {x0 x1 x2 : Value} {a : Nat} {v : Int32} (ht : τ.1 a = 3) : AW d 110 67 [x0, x1, x2] (.int v :: .ref a :: st) σ ρ g τ Q = AW d 110 70 [x0, x1, x2] (st) (am_u σ a 6 v) ρ g τ Q := aw_pi m110 d110_67 rfl rfl (Or.inl rfl) rfl ht
theorem d110_70 : decode cX11_province 70 = .ok (.aload_n 0, 1) := by decide +kernel
theorem s110_70 {d : Nat} {st : List Value} {σ : am_I} {ρ : am_R} {g : am_J} {τ : am_T} {Q : am_Q} {x1 x2 : Value} {v : Nat} : AW d 110 70 [.ref v, x1, x2] (st) σ ρ g τ Q = AW d 110 71 [.ref v, x1, x2] (.ref v :: st) σ ρ g τ Q := aw_lc m110 d110_70 rfl rfl rfl
theorem d110_71 : decode cX11_province 71 = .ok (.getfield 10, 3) := by decide +kernel
theorem s110_71 {d : Nat} {st : List Value} {σ : am_I} {ρ : am_R} {g : am_J} {τ : am_T} {Q : am_Q} {x0 x1 x2 : Value} {a : Nat} (ht : τ.1 a = 11) : AW d 110 71 [x0, x1, x2] (.ref a :: st) σ ρ g τ Q = AW d 110 74 [x0, x1, x2] (va_rf (ρ a 0) :: st) σ ρ g τ Q := aw_gr m110 d110_71 rfl rfl rfl ht
theorem d110_74 : decode cX11_province 74 = .ok (.getfield 110, 3) := by decide +kernel
theorem s110_74 {d : Nat} {st : List Value} {σ : am_I} {ρ : am_R} {g : am_J} {τ : am_T} {Q : am_Q} {x0 x1 x2 : Value} {a : Nat} (ht : τ.1 a = 3) : AW d 110 74 [x0, x1, x2] (.ref a :: st) σ ρ g τ Q = AW d 110 77 [x0, x1, x2] (.int (σ a 6) :: st) σ ρ g τ Q := aw_gi m110 d110_74 rfl rfl rfl ht
theorem d110_77 : decode cX11_province 77 = .ok (.iconst 1, 1) := by decide +kernel
theorem s110_77 {d : Nat} {st : List Value} {σ : am_I} {ρ : am_R} {g : am_J} {τ : am_T} {Q : am_Q} {x0 x1 x2 : Value} : AW d 110 77 [x0, x1, x2] (st) σ ρ g τ Q = AW d 110 78 [x0, x1, x2] (.int 1 :: st) σ ρ g τ Q := aw_lc m110 d110_77 rfl rfl rfl
theorem d110_78 : decode cX11_province 78 = .ok (.isub, 1) := by decide +kernel
theorem s110_78 {d : Nat} {st : List Value} {σ : am_I} {ρ : am_R} {g : am_J} {τ : am_T} {Q : am_Q} {x0 x1 x2 : Value} {v w : Int32} : AW d 110 78 [x0, x1, x2] (.int w :: .int v :: st) σ ρ g τ Q = AW d 110 79 [x0, x1, x2] (.int (v - w) :: st) σ ρ g τ Q := aw_lc m110 d110_78 rfl rfl rfl
theorem d110_79 : decode cX11_province 79 = .ok (.ireturn, 1) := by decide +kernel
theorem s110_79 {d : Nat} {σ : am_I} {ρ : am_R} {g : am_J} {τ : am_T} {Q : am_Q} {x0 x1 x2 : Value} {v : Int32} : AW d 110 79 [x0, x1, x2] ([.int v]) σ ρ g τ Q = Q (some (.int v)) σ ρ g τ := aw_ri m110 d110_79 rfl
theorem d111_0 : decode cX11_yield1 0 = .ok (.aload_n 0, 1) := by decide +kernel
theorem s111_0 {d : Nat} {st : List Value} {σ : am_I} {ρ : am_R} {g : am_J} {τ : am_T} {Q : am_Q} {x1 x2 x3 x4 x5 : Value} {v : Nat} : AW d 111 0 [.ref v, x1, x2, x3, x4, x5] (st) σ ρ g τ Q = AW d 111 1 [.ref v, x1, x2, x3, x4, x5] (.ref v :: st) σ ρ g τ Q := aw_lc m111 d111_0 rfl rfl rfl
theorem d111_1 : decode cX11_yield1 1 = .ok (.getfield 10, 3) := by decide +kernel
theorem s111_1 {d : Nat} {st : List Value} {σ : am_I} {ρ : am_R} {g : am_J} {τ : am_T} {Q : am_Q} {x0 x1 x2 x3 x4 x5 : Value} {a : Nat} (ht : τ.1 a = 11) : AW d 111 1 [x0, x1, x2, x3, x4, x5] (.ref a :: st) σ ρ g τ Q = AW d 111 4 [x0, x1, x2, x3, x4, x5] (va_rf (ρ a 0) :: st) σ ρ g τ Q := aw_gr m111 d111_1 rfl rfl rfl ht
theorem d111_4 : decode cX11_yield1 4 = .ok (.iload_n 1, 1) := by decide +kernel
theorem s111_4 {d : Nat} {st : List Value} {σ : am_I} {ρ : am_R} {g : am_J} {τ : am_T} {Q : am_Q} {x0 x2 x3 x4 x5 : Value} {v : Int32} : AW d 111 4 [x0, .int v, x2, x3, x4, x5] (st) σ ρ g τ Q = AW d 111 5 [x0, .int v, x2, x3, x4, x5] (.int v :: st) σ ρ g τ Q := aw_lc m111 d111_4 rfl rfl rfl
theorem d111_5 : decode cX11_yield1 5 = .ok (.invokevirtual 122, 3) := by decide +kernel
theorem s111_5 {d : Nat} {st : List Value} {σ : am_I} {ρ : am_R} {g : am_J} {τ : am_T} {Q : am_Q} {x0 x1 x2 x3 x4 x5 : Value} {p0 : Nat} {p1 : Int32} (ht : τ.1 p0 = 3) (hs : st.length ≤ 4) : AW (d + 1) 111 5 [x0, x1, x2, x3, x4, x5] (.int p1 :: .ref p0 :: st) σ ρ g τ Q = AW d 23 0 [.ref p0, .int p1] [] σ ρ g τ (fun r9 σ ρ g τ => AW (d + 1) 111 8 [x0, x1, x2, x3, x4, x5] (r9.toList ++ st) σ ρ g τ Q) := aw_cv m111 d111_5 rfl m23 rfl rfl (by decide) en23 ok23 rfl ht hs
theorem d111_8 : decode cX11_yield1 8 = .ok (.ifCond .eq 21, 3) := by decide +kernel
theorem s111_8 {d : Nat} {st : List Value} {σ : am_I} {ρ : am_R} {g : am_J} {τ : am_T} {Q : am_Q} {x0 x1 x2 x3 x4 x5 : Value} {v : Int32} : AW d 111 8 [x0, x1, x2, x3, x4, x5] (.int v :: st) σ ρ g τ Q = if v = 0 then AW d 111 29 [x0, x1, x2, x3, x4, x5] (st) σ ρ g τ Q else AW d 111 11 [x0, x1, x2, x3, x4, x5] (st) σ ρ g τ Q := aw_br m111 d111_8 rfl rfl rfl
theorem d111_11 : decode cX11_yield1 11 = .ok (.iload_n 2, 1) := by decide +kernel
theorem s111_11 {d : Nat} {st : List Value} {σ : am_I} {ρ : am_R} {g : am_J} {τ : am_T} {Q : am_Q} {x0 x1 x3 x4 x5 : Value} {v : Int32} : AW d 111 11 [x0, x1, .int v, x3, x4, x5] (st) σ ρ g τ Q = AW d 111 12 [x0, x1, .int v, x3, x4, x5] (.int v :: st) σ ρ g τ Q := aw_lc m111 d111_11 rfl rfl rfl
theorem d111_12 : decode cX11_yield1 12 = .ok (.invokestatic 126, 3) := by decide +kernel
theorem s111_12 {d : Nat} {st : List Value} {σ : am_I} {ρ : am_R} {g : am_J} {τ : am_T} {Q : am_Q} {x0 x1 x2 x3 x4 x5 : Value} {p0 : Int32} (hs : st.length ≤ 4) : AW (d + 1) 111 12 [x0, x1, x2, x3, x4, x5] (.int p0 :: st) σ ρ g τ Q = AW d 102 0 [.int p0] [] σ ρ g τ (fun r9 σ ρ g τ => AW (d + 1) 111 15 [x0, x1, x2, x3, x4, x5] (r9.toList ++ st) σ ρ g τ Q) := aw_cs m111 d111_12 rfl (by simp only [List.length_cons]; omega) rfl rfl en102 ok102 rfl hs
theorem d111_15 : decode cX11_yield1 15 = .ok (.ifCond .eq 14, 3) := by decide +kernel
theorem s111_15 {d : Nat} {st : List Value} {σ : am_I} {ρ : am_R} {g : am_J} {τ : am_T} {Q : am_Q} {x0 x1 x2 x3 x4 x5 : Value} {v : Int32} : AW d 111 15 [x0, x1, x2, x3, x4, x5] (.int v :: st) σ ρ g τ Q = if v = 0 then AW d 111 29 [x0, x1, x2, x3, x4, x5] (st) σ ρ g τ Q else AW d 111 18 [x0, x1, x2, x3, x4, x5] (st) σ ρ g τ Q := aw_br m111 d111_15 rfl rfl rfl
theorem d111_18 : decode cX11_yield1 18 = .ok (.iload_n 3, 1) := by decide +kernel
theorem s111_18 {d : Nat} {st : List Value} {σ : am_I} {ρ : am_R} {g : am_J} {τ : am_T} {Q : am_Q} {x0 x1 x2 x4 x5 : Value} {v : Int32} : AW d 111 18 [x0, x1, x2, .int v, x4, x5] (st) σ ρ g τ Q = AW d 111 19 [x0, x1, x2, .int v, x4, x5] (.int v :: st) σ ρ g τ Q := aw_lc m111 d111_18 rfl rfl rfl
theorem d111_19 : decode cX11_yield1 19 = .ok (.iconst 0, 1) := by decide +kernel
theorem s111_19 {d : Nat} {st : List Value} {σ : am_I} {ρ : am_R} {g : am_J} {τ : am_T} {Q : am_Q} {x0 x1 x2 x3 x4 x5 : Value} : AW d 111 19 [x0, x1, x2, x3, x4, x5] (st) σ ρ g τ Q = AW d 111 20 [x0, x1, x2, x3, x4, x5] (.int 0 :: st) σ ρ g τ Q := aw_lc m111 d111_19 rfl rfl rfl
theorem d111_20 : decode cX11_yield1 20 = .ok (.sipush 999, 3) := by decide +kernel
theorem s111_20 {d : Nat} {st : List Value} {σ : am_I} {ρ : am_R} {g : am_J} {τ : am_T} {Q : am_Q} {x0 x1 x2 x3 x4 x5 : Value} : AW d 111 20 [x0, x1, x2, x3, x4, x5] (st) σ ρ g τ Q = AW d 111 23 [x0, x1, x2, x3, x4, x5] (.int 999 :: st) σ ρ g τ Q := aw_lc m111 d111_20 rfl rfl rfl
theorem d111_23 : decode cX11_yield1 23 = .ok (.invokestatic 74, 3) := by decide +kernel
theorem s111_23 {d : Nat} {st : List Value} {σ : am_I} {ρ : am_R} {g : am_J} {τ : am_T} {Q : am_Q} {x0 x1 x2 x3 x4 x5 : Value} {p0 : Int32} {p1 : Int32} {p2 : Int32} (hs : st.length ≤ 4) : AW (d + 1) 111 23 [x0, x1, x2, x3, x4, x5] (.int p2 :: .int p1 :: .int p0 :: st) σ ρ g τ Q = AW d 100 0 [.int p0, .int p1, .int p2] [] σ ρ g τ (fun r9 σ ρ g τ => AW (d + 1) 111 26 [x0, x1, x2, x3, x4, x5] (r9.toList ++ st) σ ρ g τ Q) := aw_cs m111 d111_23 rfl (by simp only [List.length_cons]; omega) rfl rfl en100 ok100 rfl hs
theorem d111_26 : decode cX11_yield1 26 = .ok (.ifCond .ne 5, 3) := by decide +kernel
theorem s111_26 {d : Nat} {st : List Value} {σ : am_I} {ρ : am_R} {g : am_J} {τ : am_T} {Q : am_Q} {x0 x1 x2 x3 x4 x5 : Value} {v : Int32} : AW d 111 26 [x0, x1, x2, x3, x4, x5] (.int v :: st) σ ρ g τ Q = if ¬ v = 0 then AW d 111 31 [x0, x1, x2, x3, x4, x5] (st) σ ρ g τ Q else AW d 111 29 [x0, x1, x2, x3, x4, x5] (st) σ ρ g τ Q := aw_br m111 d111_26 rfl rfl rfl
theorem d111_29 : decode cX11_yield1 29 = .ok (.iconst (-1), 1) := by decide +kernel
theorem s111_29 {d : Nat} {st : List Value} {σ : am_I} {ρ : am_R} {g : am_J} {τ : am_T} {Q : am_Q} {x0 x1 x2 x3 x4 x5 : Value} : AW d 111 29 [x0, x1, x2, x3, x4, x5] (st) σ ρ g τ Q = AW d 111 30 [x0, x1, x2, x3, x4, x5] (.int (-1) :: st) σ ρ g τ Q := aw_lc m111 d111_29 rfl rfl rfl
theorem d111_30 : decode cX11_yield1 30 = .ok (.ireturn, 1) := by decide +kernel
theorem s111_30 {d : Nat} {σ : am_I} {ρ : am_R} {g : am_J} {τ : am_T} {Q : am_Q} {x0 x1 x2 x3 x4 x5 : Value} {v : Int32} : AW d 111 30 [x0, x1, x2, x3, x4, x5] ([.int v]) σ ρ g τ Q = Q (some (.int v)) σ ρ g τ := aw_ri m111 d111_30 rfl
theorem d111_31 : decode cX11_yield1 31 = .ok (.aload_n 0, 1) := by decide +kernel
theorem s111_31 {d : Nat} {st : List Value} {σ : am_I} {ρ : am_R} {g : am_J} {τ : am_T} {Q : am_Q} {x1 x2 x3 x4 x5 : Value} {v : Nat} : AW d 111 31 [.ref v, x1, x2, x3, x4, x5] (st) σ ρ g τ Q = AW d 111 32 [.ref v, x1, x2, x3, x4, x5] (.ref v :: st) σ ρ g τ Q := aw_lc m111 d111_31 rfl rfl rfl
theorem d111_32 : decode cX11_yield1 32 = .ok (.getfield 10, 3) := by decide +kernel
theorem s111_32 {d : Nat} {st : List Value} {σ : am_I} {ρ : am_R} {g : am_J} {τ : am_T} {Q : am_Q} {x0 x1 x2 x3 x4 x5 : Value} {a : Nat} (ht : τ.1 a = 11) : AW d 111 32 [x0, x1, x2, x3, x4, x5] (.ref a :: st) σ ρ g τ Q = AW d 111 35 [x0, x1, x2, x3, x4, x5] (va_rf (ρ a 0) :: st) σ ρ g τ Q := aw_gr m111 d111_32 rfl rfl rfl ht
theorem d111_35 : decode cX11_yield1 35 = .ok (.getfield 113, 3) := by decide +kernel
theorem s111_35 {d : Nat} {st : List Value} {σ : am_I} {ρ : am_R} {g : am_J} {τ : am_T} {Q : am_Q} {x0 x1 x2 x3 x4 x5 : Value} {a : Nat} (ht : τ.1 a = 3) : AW d 111 35 [x0, x1, x2, x3, x4, x5] (.ref a :: st) σ ρ g τ Q = AW d 111 38 [x0, x1, x2, x3, x4, x5] (va_rf (ρ a 5) :: st) σ ρ g τ Q := aw_gr m111 d111_35 rfl rfl rfl ht
theorem d111_38 : decode cX11_yield1 38 = .ok (.iload_n 1, 1) := by decide +kernel
theorem s111_38 {d : Nat} {st : List Value} {σ : am_I} {ρ : am_R} {g : am_J} {τ : am_T} {Q : am_Q} {x0 x2 x3 x4 x5 : Value} {v : Int32} : AW d 111 38 [x0, .int v, x2, x3, x4, x5] (st) σ ρ g τ Q = AW d 111 39 [x0, .int v, x2, x3, x4, x5] (.int v :: st) σ ρ g τ Q := aw_lc m111 d111_38 rfl rfl rfl
theorem d111_39 : decode cX11_yield1 39 = .ok (.aaload, 1) := by decide +kernel
theorem s111_39 {d : Nat} {st : List Value} {σ : am_I} {ρ : am_R} {g : am_J} {τ : am_T} {Q : am_Q} {x0 x1 x2 x3 x4 x5 : Value} {a : Nat} {j : Int32} (ht : 18 ≤ τ.1 a ∧ τ.1 a ≤ 22) (hj : am_inb j (τ.2.1 a) = true) : AW d 111 39 [x0, x1, x2, x3, x4, x5] (.int j :: .ref a :: st) σ ρ g τ Q = AW d 111 40 [x0, x1, x2, x3, x4, x5] (va_rf (ρ a j.toNatClampNeg) :: st) σ ρ g τ Q := aw_aal m111 d111_39 rfl ht hj
theorem d111_40 : decode cX11_yield1 40 = .ok (.getfield 129, 3) := by decide +kernel
theorem s111_40 {d : Nat} {st : List Value} {σ : am_I} {ρ : am_R} {g : am_J} {τ : am_T} {Q : am_Q} {x0 x1 x2 x3 x4 x5 : Value} {a : Nat} (ht : τ.1 a = 7) : AW d 111 40 [x0, x1, x2, x3, x4, x5] (.ref a :: st) σ ρ g τ Q = AW d 111 43 [x0, x1, x2, x3, x4, x5] (va_rf (ρ a 4) :: st) σ ρ g τ Q := aw_gr m111 d111_40 rfl rfl rfl ht
theorem d111_43 : decode cX11_yield1 43 = .ok (.astore 4, 2) := by decide +kernel
theorem s111_43 {d : Nat} {st : List Value} {σ : am_I} {ρ : am_R} {g : am_J} {τ : am_T} {Q : am_Q} {x0 x1 x2 x4 x5 : Value} {v : Nat} {u : Int32} : AW d 111 43 [x0, x1, x2, .int u, x4, x5] (.ref v :: st) σ ρ g τ Q = AW d 111 45 [x0, x1, x2, .int u, .ref v, x5] (st) σ ρ g τ Q := aw_lc m111 d111_43 rfl rfl rfl
theorem d111_45 : decode cX11_yield1 45 = .ok (.aload 4, 2) := by decide +kernel
theorem s111_45 {d : Nat} {st : List Value} {σ : am_I} {ρ : am_R} {g : am_J} {τ : am_T} {Q : am_Q} {x0 x1 x2 x3 x5 : Value} {v : Nat} : AW d 111 45 [x0, x1, x2, x3, .ref v, x5] (st) σ ρ g τ Q = AW d 111 47 [x0, x1, x2, x3, .ref v, x5] (.ref v :: st) σ ρ g τ Q := aw_lc m111 d111_45 rfl rfl rfl
theorem d111_47 : decode cX11_yield1 47 = .ok (.iload_n 2, 1) := by decide +kernel
theorem s111_47 {d : Nat} {st : List Value} {σ : am_I} {ρ : am_R} {g : am_J} {τ : am_T} {Q : am_Q} {x0 x1 x3 x4 x5 : Value} {v : Int32} : AW d 111 47 [x0, x1, .int v, x3, x4, x5] (st) σ ρ g τ Q = AW d 111 48 [x0, x1, .int v, x3, x4, x5] (.int v :: st) σ ρ g τ Q := aw_lc m111 d111_47 rfl rfl rfl
theorem d111_48 : decode cX11_yield1 48 = .ok (.iaload, 1) := by decide +kernel
theorem s111_48 {d : Nat} {st : List Value} {σ : am_I} {ρ : am_R} {g : am_J} {τ : am_T} {Q : am_Q} {x0 x1 x2 x3 x4 x5 : Value} {a : Nat} {j : Int32} (ht : τ.1 a = 15) (hj : am_inb j (τ.2.1 a) = true) : AW d 111 48 [x0, x1, x2, x3, x4, x5] (.int j :: .ref a :: st) σ ρ g τ Q = AW d 111 49 [x0, x1, x2, x3, x4, x5] (.int (σ a j.toNatClampNeg) :: st) σ ρ g τ Q := aw_ial m111 d111_48 rfl ht hj
theorem d111_49 : decode cX11_yield1 49 = .ok (.istore 5, 2) := by decide +kernel
theorem s111_49r {d : Nat} {st : List Value} {σ : am_I} {ρ : am_R} {g : am_J} {τ : am_T} {Q : am_Q} {x0 x1 x2 x3 x5 : Value} {v : Int32} {u : Nat} : AW d 111 49 [x0, x1, x2, x3, .ref u, x5] (.int v :: st) σ ρ g τ Q = AW d 111 51 [x0, x1, x2, x3, .ref u, .int v] (st) σ ρ g τ Q := aw_lc m111 d111_49 rfl rfl rfl
theorem d111_51 : decode cX11_yield1 51 = .ok (.aload 4, 2) := by decide +kernel
theorem s111_51 {d : Nat} {st : List Value} {σ : am_I} {ρ : am_R} {g : am_J} {τ : am_T} {Q : am_Q} {x0 x1 x2 x3 x5 : Value} {v : Nat} : AW d 111 51 [x0, x1, x2, x3, .ref v, x5] (st) σ ρ g τ Q = AW d 111 53 [x0, x1, x2, x3, .ref v, x5] (.ref v :: st) σ ρ g τ Q := aw_lc m111 d111_51 rfl rfl rfl
theorem d111_53 : decode cX11_yield1 53 = .ok (.iload_n 2, 1) := by decide +kernel
theorem s111_53 {d : Nat} {st : List Value} {σ : am_I} {ρ : am_R} {g : am_J} {τ : am_T} {Q : am_Q} {x0 x1 x3 x4 x5 : Value} {v : Int32} : AW d 111 53 [x0, x1, .int v, x3, x4, x5] (st) σ ρ g τ Q = AW d 111 54 [x0, x1, .int v, x3, x4, x5] (.int v :: st) σ ρ g τ Q := aw_lc m111 d111_53 rfl rfl rfl
theorem d111_54 : decode cX11_yield1 54 = .ok (.iload_n 3, 1) := by decide +kernel
theorem s111_54 {d : Nat} {st : List Value} {σ : am_I} {ρ : am_R} {g : am_J} {τ : am_T} {Q : am_Q} {x0 x1 x2 x4 x5 : Value} {v : Int32} : AW d 111 54 [x0, x1, x2, .int v, x4, x5] (st) σ ρ g τ Q = AW d 111 55 [x0, x1, x2, .int v, x4, x5] (.int v :: st) σ ρ g τ Q := aw_lc m111 d111_54 rfl rfl rfl
theorem d111_55 : decode cX11_yield1 55 = .ok (.iastore, 1) := by decide +kernel
theorem s111_55 {d : Nat} {st : List Value} {σ : am_I} {ρ : am_R} {g : am_J} {τ : am_T} {Q : am_Q} {x0 x1 x2 x3 x4 x5 : Value} {a : Nat} {j v : Int32} (ht : τ.1 a = 15) (ha : a < am_BG) (hj : am_inb j (τ.2.1 a) = true) : AW d 111 55 [x0, x1, x2, x3, x4, x5] (.int v :: .int j :: .ref a :: st) σ ρ g τ Q = AW d 111 56 [x0, x1, x2, x3, x4, x5] (st) (am_u σ a j.toNatClampNeg v) ρ g τ Q := aw_ias m111 d111_55 rfl ht ha hj
theorem d111_56 : decode cX11_yield1 56 = .ok (.iload 5, 2) := by decide +kernel
theorem s111_56 {d : Nat} {st : List Value} {σ : am_I} {ρ : am_R} {g : am_J} {τ : am_T} {Q : am_Q} {x0 x1 x2 x3 x4 : Value} {v : Int32} : AW d 111 56 [x0, x1, x2, x3, x4, .int v] (st) σ ρ g τ Q = AW d 111 58 [x0, x1, x2, x3, x4, .int v] (.int v :: st) σ ρ g τ Q := aw_lc m111 d111_56 rfl rfl rfl
theorem d111_58 : decode cX11_yield1 58 = .ok (.ireturn, 1) := by decide +kernel
theorem s111_58 {d : Nat} {σ : am_I} {ρ : am_R} {g : am_J} {τ : am_T} {Q : am_Q} {x0 x1 x2 x3 x4 x5 : Value} {v : Int32} : AW d 111 58 [x0, x1, x2, x3, x4, x5] ([.int v]) σ ρ g τ Q = Q (some (.int v)) σ ρ g τ := aw_ri m111 d111_58 rfl
theorem d112_0 : decode cX11_yields 0 = .ok (.aload_n 0, 1) := by decide +kernel
theorem s112_0 {d : Nat} {st : List Value} {σ : am_I} {ρ : am_R} {g : am_J} {τ : am_T} {Q : am_Q} {x1 x2 x3 x4 x5 : Value} {v : Nat} : AW d 112 0 [.ref v, x1, x2, x3, x4, x5] (st) σ ρ g τ Q = AW d 112 1 [.ref v, x1, x2, x3, x4, x5] (.ref v :: st) σ ρ g τ Q := aw_lc m112 d112_0 rfl rfl rfl
theorem d112_1 : decode cX11_yields 1 = .ok (.getfield 10, 3) := by decide +kernel
theorem s112_1 {d : Nat} {st : List Value} {σ : am_I} {ρ : am_R} {g : am_J} {τ : am_T} {Q : am_Q} {x0 x1 x2 x3 x4 x5 : Value} {a : Nat} (ht : τ.1 a = 11) : AW d 112 1 [x0, x1, x2, x3, x4, x5] (.ref a :: st) σ ρ g τ Q = AW d 112 4 [x0, x1, x2, x3, x4, x5] (va_rf (ρ a 0) :: st) σ ρ g τ Q := aw_gr m112 d112_1 rfl rfl rfl ht
theorem d112_4 : decode cX11_yields 4 = .ok (.iload_n 1, 1) := by decide +kernel
theorem s112_4 {d : Nat} {st : List Value} {σ : am_I} {ρ : am_R} {g : am_J} {τ : am_T} {Q : am_Q} {x0 x2 x3 x4 x5 : Value} {v : Int32} : AW d 112 4 [x0, .int v, x2, x3, x4, x5] (st) σ ρ g τ Q = AW d 112 5 [x0, .int v, x2, x3, x4, x5] (.int v :: st) σ ρ g τ Q := aw_lc m112 d112_4 rfl rfl rfl
theorem d112_5 : decode cX11_yields 5 = .ok (.invokevirtual 122, 3) := by decide +kernel
theorem s112_5 {d : Nat} {st : List Value} {σ : am_I} {ρ : am_R} {g : am_J} {τ : am_T} {Q : am_Q} {x0 x1 x2 x3 x4 x5 : Value} {p0 : Nat} {p1 : Int32} (ht : τ.1 p0 = 3) (hs : st.length ≤ 4) : AW (d + 1) 112 5 [x0, x1, x2, x3, x4, x5] (.int p1 :: .ref p0 :: st) σ ρ g τ Q = AW d 23 0 [.ref p0, .int p1] [] σ ρ g τ (fun r9 σ ρ g τ => AW (d + 1) 112 8 [x0, x1, x2, x3, x4, x5] (r9.toList ++ st) σ ρ g τ Q) := aw_cv m112 d112_5 rfl m23 rfl rfl (by decide) en23 ok23 rfl ht hs
theorem d112_8 : decode cX11_yields 8 = .ok (.ifCond .eq 10, 3) := by decide +kernel
theorem s112_8 {d : Nat} {st : List Value} {σ : am_I} {ρ : am_R} {g : am_J} {τ : am_T} {Q : am_Q} {x0 x1 x2 x3 x4 x5 : Value} {v : Int32} : AW d 112 8 [x0, x1, x2, x3, x4, x5] (.int v :: st) σ ρ g τ Q = if v = 0 then AW d 112 18 [x0, x1, x2, x3, x4, x5] (st) σ ρ g τ Q else AW d 112 11 [x0, x1, x2, x3, x4, x5] (st) σ ρ g τ Q := aw_br m112 d112_8 rfl rfl rfl
theorem d112_11 : decode cX11_yields 11 = .ok (.iload_n 2, 1) := by decide +kernel
theorem s112_11 {d : Nat} {st : List Value} {σ : am_I} {ρ : am_R} {g : am_J} {τ : am_T} {Q : am_Q} {x0 x1 x3 x4 x5 : Value} {v : Int32} : AW d 112 11 [x0, x1, .int v, x3, x4, x5] (st) σ ρ g τ Q = AW d 112 12 [x0, x1, .int v, x3, x4, x5] (.int v :: st) σ ρ g τ Q := aw_lc m112 d112_11 rfl rfl rfl
theorem d112_12 : decode cX11_yields 12 = .ok (.invokestatic 132, 3) := by decide +kernel
theorem s112_12 {d : Nat} {st : List Value} {σ : am_I} {ρ : am_R} {g : am_J} {τ : am_T} {Q : am_Q} {x0 x1 x2 x3 x4 x5 : Value} {p0 : Int32} (hs : st.length ≤ 4) : AW (d + 1) 112 12 [x0, x1, x2, x3, x4, x5] (.int p0 :: st) σ ρ g τ Q = AW d 106 0 [.int p0] [] σ ρ g τ (fun r9 σ ρ g τ => AW (d + 1) 112 15 [x0, x1, x2, x3, x4, x5] (r9.toList ++ st) σ ρ g τ Q) := aw_cs m112 d112_12 rfl (by simp only [List.length_cons]; omega) rfl rfl en106 ok106 rfl hs
theorem d112_15 : decode cX11_yields 15 = .ok (.ifCond .ne 5, 3) := by decide +kernel
theorem s112_15 {d : Nat} {st : List Value} {σ : am_I} {ρ : am_R} {g : am_J} {τ : am_T} {Q : am_Q} {x0 x1 x2 x3 x4 x5 : Value} {v : Int32} : AW d 112 15 [x0, x1, x2, x3, x4, x5] (.int v :: st) σ ρ g τ Q = if ¬ v = 0 then AW d 112 20 [x0, x1, x2, x3, x4, x5] (st) σ ρ g τ Q else AW d 112 18 [x0, x1, x2, x3, x4, x5] (st) σ ρ g τ Q := aw_br m112 d112_15 rfl rfl rfl
theorem d112_18 : decode cX11_yields 18 = .ok (.iconst (-1), 1) := by decide +kernel
theorem s112_18 {d : Nat} {st : List Value} {σ : am_I} {ρ : am_R} {g : am_J} {τ : am_T} {Q : am_Q} {x0 x1 x2 x3 x4 x5 : Value} : AW d 112 18 [x0, x1, x2, x3, x4, x5] (st) σ ρ g τ Q = AW d 112 19 [x0, x1, x2, x3, x4, x5] (.int (-1) :: st) σ ρ g τ Q := aw_lc m112 d112_18 rfl rfl rfl
theorem d112_19 : decode cX11_yields 19 = .ok (.ireturn, 1) := by decide +kernel
theorem s112_19 {d : Nat} {σ : am_I} {ρ : am_R} {g : am_J} {τ : am_T} {Q : am_Q} {x0 x1 x2 x3 x4 x5 : Value} {v : Int32} : AW d 112 19 [x0, x1, x2, x3, x4, x5] ([.int v]) σ ρ g τ Q = Q (some (.int v)) σ ρ g τ := aw_ri m112 d112_19 rfl
theorem d112_20 : decode cX11_yields 20 = .ok (.aload_n 0, 1) := by decide +kernel
theorem s112_20 {d : Nat} {st : List Value} {σ : am_I} {ρ : am_R} {g : am_J} {τ : am_T} {Q : am_Q} {x1 x2 x3 x4 x5 : Value} {v : Nat} : AW d 112 20 [.ref v, x1, x2, x3, x4, x5] (st) σ ρ g τ Q = AW d 112 21 [.ref v, x1, x2, x3, x4, x5] (.ref v :: st) σ ρ g τ Q := aw_lc m112 d112_20 rfl rfl rfl
theorem d112_21 : decode cX11_yields 21 = .ok (.getfield 56, 3) := by decide +kernel
theorem s112_21 {d : Nat} {st : List Value} {σ : am_I} {ρ : am_R} {g : am_J} {τ : am_T} {Q : am_Q} {x0 x1 x2 x3 x4 x5 : Value} {a : Nat} (ht : τ.1 a = 11) : AW d 112 21 [x0, x1, x2, x3, x4, x5] (.ref a :: st) σ ρ g τ Q = AW d 112 24 [x0, x1, x2, x3, x4, x5] (va_rf (ρ a 7) :: st) σ ρ g τ Q := aw_gr m112 d112_21 rfl rfl rfl ht
theorem d112_24 : decode cX11_yields 24 = .ok (.iload_n 2, 1) := by decide +kernel
theorem s112_24 {d : Nat} {st : List Value} {σ : am_I} {ρ : am_R} {g : am_J} {τ : am_T} {Q : am_Q} {x0 x1 x3 x4 x5 : Value} {v : Int32} : AW d 112 24 [x0, x1, .int v, x3, x4, x5] (st) σ ρ g τ Q = AW d 112 25 [x0, x1, .int v, x3, x4, x5] (.int v :: st) σ ρ g τ Q := aw_lc m112 d112_24 rfl rfl rfl
theorem d112_25 : decode cX11_yields 25 = .ok (.iconst 1, 1) := by decide +kernel
theorem s112_25 {d : Nat} {st : List Value} {σ : am_I} {ρ : am_R} {g : am_J} {τ : am_T} {Q : am_Q} {x0 x1 x2 x3 x4 x5 : Value} : AW d 112 25 [x0, x1, x2, x3, x4, x5] (st) σ ρ g τ Q = AW d 112 26 [x0, x1, x2, x3, x4, x5] (.int 1 :: st) σ ρ g τ Q := aw_lc m112 d112_25 rfl rfl rfl
theorem d112_26 : decode cX11_yields 26 = .ok (.iload_n 3, 1) := by decide +kernel
theorem s112_26 {d : Nat} {st : List Value} {σ : am_I} {ρ : am_R} {g : am_J} {τ : am_T} {Q : am_Q} {x0 x1 x2 x4 x5 : Value} {v : Int32} : AW d 112 26 [x0, x1, x2, .int v, x4, x5] (st) σ ρ g τ Q = AW d 112 27 [x0, x1, x2, .int v, x4, x5] (.int v :: st) σ ρ g τ Q := aw_lc m112 d112_26 rfl rfl rfl
theorem d112_27 : decode cX11_yields 27 = .ok (.iconst 3, 1) := by decide +kernel
theorem s112_27 {d : Nat} {st : List Value} {σ : am_I} {ρ : am_R} {g : am_J} {τ : am_T} {Q : am_Q} {x0 x1 x2 x3 x4 x5 : Value} : AW d 112 27 [x0, x1, x2, x3, x4, x5] (st) σ ρ g τ Q = AW d 112 28 [x0, x1, x2, x3, x4, x5] (.int 3 :: st) σ ρ g τ Q := aw_lc m112 d112_27 rfl rfl rfl
theorem d112_28 : decode cX11_yields 28 = .ok (.invokevirtual 135, 3) := by decide +kernel
theorem s112_28 {d : Nat} {st : List Value} {σ : am_I} {ρ : am_R} {g : am_J} {τ : am_T} {Q : am_Q} {x0 x1 x2 x3 x4 x5 : Value} {p0 : Nat} {p1 : Int32} {p2 : Int32} {p3 : Int32} {p4 : Int32} (ht : τ.1 p0 = 2) (hs : st.length ≤ 4) : AW (d + 1) 112 28 [x0, x1, x2, x3, x4, x5] (.int p4 :: .int p3 :: .int p2 :: .int p1 :: .ref p0 :: st) σ ρ g τ Q = AW d 16 0 [.ref p0, .int p1, .int p2, .int p3, .int p4] [] σ ρ g τ (fun r9 σ ρ g τ => AW (d + 1) 112 31 [x0, x1, x2, x3, x4, x5] (r9.toList ++ st) σ ρ g τ Q) := aw_cv m112 d112_28 rfl m16 rfl rfl (by decide) en16 ok16 rfl ht hs
theorem d112_31 : decode cX11_yields 31 = .ok (.istore 4, 2) := by decide +kernel
theorem s112_31 {d : Nat} {st : List Value} {σ : am_I} {ρ : am_R} {g : am_J} {τ : am_T} {Q : am_Q} {x0 x1 x2 x4 x5 : Value} {v : Int32} {u : Int32} : AW d 112 31 [x0, x1, x2, .int u, x4, x5] (.int v :: st) σ ρ g τ Q = AW d 112 33 [x0, x1, x2, .int u, .int v, x5] (st) σ ρ g τ Q := aw_lc m112 d112_31 rfl rfl rfl
theorem d112_33 : decode cX11_yields 33 = .ok (.iload 4, 2) := by decide +kernel
theorem s112_33 {d : Nat} {st : List Value} {σ : am_I} {ρ : am_R} {g : am_J} {τ : am_T} {Q : am_Q} {x0 x1 x2 x3 x5 : Value} {v : Int32} : AW d 112 33 [x0, x1, x2, x3, .int v, x5] (st) σ ρ g τ Q = AW d 112 35 [x0, x1, x2, x3, .int v, x5] (.int v :: st) σ ρ g τ Q := aw_lc m112 d112_33 rfl rfl rfl
theorem d112_35 : decode cX11_yields 35 = .ok (.ifCond .eq 6, 3) := by decide +kernel
theorem s112_35 {d : Nat} {st : List Value} {σ : am_I} {ρ : am_R} {g : am_J} {τ : am_T} {Q : am_Q} {x0 x1 x2 x3 x4 x5 : Value} {v : Int32} : AW d 112 35 [x0, x1, x2, x3, x4, x5] (.int v :: st) σ ρ g τ Q = if v = 0 then AW d 112 41 [x0, x1, x2, x3, x4, x5] (st) σ ρ g τ Q else AW d 112 38 [x0, x1, x2, x3, x4, x5] (st) σ ρ g τ Q := aw_br m112 d112_35 rfl rfl rfl
theorem d112_38 : decode cX11_yields 38 = .ok (.iload 4, 2) := by decide +kernel
theorem s112_38 {d : Nat} {st : List Value} {σ : am_I} {ρ : am_R} {g : am_J} {τ : am_T} {Q : am_Q} {x0 x1 x2 x3 x5 : Value} {v : Int32} : AW d 112 38 [x0, x1, x2, x3, .int v, x5] (st) σ ρ g τ Q = AW d 112 40 [x0, x1, x2, x3, .int v, x5] (.int v :: st) σ ρ g τ Q := aw_lc m112 d112_38 rfl rfl rfl
theorem d112_40 : decode cX11_yields 40 = .ok (.ireturn, 1) := by decide +kernel
theorem s112_40 {d : Nat} {σ : am_I} {ρ : am_R} {g : am_J} {τ : am_T} {Q : am_Q} {x0 x1 x2 x3 x4 x5 : Value} {v : Int32} : AW d 112 40 [x0, x1, x2, x3, x4, x5] ([.int v]) σ ρ g τ Q = Q (some (.int v)) σ ρ g τ := aw_ri m112 d112_40 rfl
theorem d112_41 : decode cX11_yields 41 = .ok (.iconst 0, 1) := by decide +kernel
theorem s112_41 {d : Nat} {st : List Value} {σ : am_I} {ρ : am_R} {g : am_J} {τ : am_T} {Q : am_Q} {x0 x1 x2 x3 x4 x5 : Value} : AW d 112 41 [x0, x1, x2, x3, x4, x5] (st) σ ρ g τ Q = AW d 112 42 [x0, x1, x2, x3, x4, x5] (.int 0 :: st) σ ρ g τ Q := aw_lc m112 d112_41 rfl rfl rfl
theorem d112_42 : decode cX11_yields 42 = .ok (.istore 5, 2) := by decide +kernel
theorem s112_42 {d : Nat} {st : List Value} {σ : am_I} {ρ : am_R} {g : am_J} {τ : am_T} {Q : am_Q} {x0 x1 x2 x3 x5 : Value} {v : Int32} {u : Int32} : AW d 112 42 [x0, x1, x2, x3, .int u, x5] (.int v :: st) σ ρ g τ Q = AW d 112 44 [x0, x1, x2, x3, .int u, .int v] (st) σ ρ g τ Q := aw_lc m112 d112_42 rfl rfl rfl
theorem d112_44 : decode cX11_yields 44 = .ok (.iload 5, 2) := by decide +kernel
theorem s112_44 {d : Nat} {st : List Value} {σ : am_I} {ρ : am_R} {g : am_J} {τ : am_T} {Q : am_Q} {x0 x1 x2 x3 x4 : Value} {v : Int32} : AW d 112 44 [x0, x1, x2, x3, x4, .int v] (st) σ ρ g τ Q = AW d 112 46 [x0, x1, x2, x3, x4, .int v] (.int v :: st) σ ρ g τ Q := aw_lc m112 d112_44 rfl rfl rfl
theorem d112_46 : decode cX11_yields 46 = .ok (.iconst 3, 1) := by decide +kernel
theorem s112_46 {d : Nat} {st : List Value} {σ : am_I} {ρ : am_R} {g : am_J} {τ : am_T} {Q : am_Q} {x0 x1 x2 x3 x4 x5 : Value} : AW d 112 46 [x0, x1, x2, x3, x4, x5] (st) σ ρ g τ Q = AW d 112 47 [x0, x1, x2, x3, x4, x5] (.int 3 :: st) σ ρ g τ Q := aw_lc m112 d112_46 rfl rfl rfl
theorem d112_47 : decode cX11_yields 47 = .ok (.if_icmp .ge 34, 3) := by decide +kernel
theorem s112_47 {d : Nat} {st : List Value} {σ : am_I} {ρ : am_R} {g : am_J} {τ : am_T} {Q : am_Q} {x0 x1 x2 x3 x4 x5 : Value} {v w : Int32} : AW d 112 47 [x0, x1, x2, x3, x4, x5] (.int w :: .int v :: st) σ ρ g τ Q = if w ≤ v then AW d 112 81 [x0, x1, x2, x3, x4, x5] (st) σ ρ g τ Q else AW d 112 50 [x0, x1, x2, x3, x4, x5] (st) σ ρ g τ Q := aw_br m112 d112_47 rfl rfl rfl
theorem d112_50 : decode cX11_yields 50 = .ok (.aload_n 0, 1) := by decide +kernel
theorem s112_50 {d : Nat} {st : List Value} {σ : am_I} {ρ : am_R} {g : am_J} {τ : am_T} {Q : am_Q} {x1 x2 x3 x4 x5 : Value} {v : Nat} : AW d 112 50 [.ref v, x1, x2, x3, x4, x5] (st) σ ρ g τ Q = AW d 112 51 [.ref v, x1, x2, x3, x4, x5] (.ref v :: st) σ ρ g τ Q := aw_lc m112 d112_50 rfl rfl rfl
theorem d112_51 : decode cX11_yields 51 = .ok (.getfield 56, 3) := by decide +kernel
theorem s112_51 {d : Nat} {st : List Value} {σ : am_I} {ρ : am_R} {g : am_J} {τ : am_T} {Q : am_Q} {x0 x1 x2 x3 x4 x5 : Value} {a : Nat} (ht : τ.1 a = 11) : AW d 112 51 [x0, x1, x2, x3, x4, x5] (.ref a :: st) σ ρ g τ Q = AW d 112 54 [x0, x1, x2, x3, x4, x5] (va_rf (ρ a 7) :: st) σ ρ g τ Q := aw_gr m112 d112_51 rfl rfl rfl ht
theorem d112_54 : decode cX11_yields 54 = .ok (.iload_n 2, 1) := by decide +kernel
theorem s112_54 {d : Nat} {st : List Value} {σ : am_I} {ρ : am_R} {g : am_J} {τ : am_T} {Q : am_Q} {x0 x1 x3 x4 x5 : Value} {v : Int32} : AW d 112 54 [x0, x1, .int v, x3, x4, x5] (st) σ ρ g τ Q = AW d 112 55 [x0, x1, .int v, x3, x4, x5] (.int v :: st) σ ρ g τ Q := aw_lc m112 d112_54 rfl rfl rfl
theorem d112_55 : decode cX11_yields 55 = .ok (.iload_n 3, 1) := by decide +kernel
theorem s112_55 {d : Nat} {st : List Value} {σ : am_I} {ρ : am_R} {g : am_J} {τ : am_T} {Q : am_Q} {x0 x1 x2 x4 x5 : Value} {v : Int32} : AW d 112 55 [x0, x1, x2, .int v, x4, x5] (st) σ ρ g τ Q = AW d 112 56 [x0, x1, x2, .int v, x4, x5] (.int v :: st) σ ρ g τ Q := aw_lc m112 d112_55 rfl rfl rfl
theorem d112_56 : decode cX11_yields 56 = .ok (.iload 5, 2) := by decide +kernel
theorem s112_56 {d : Nat} {st : List Value} {σ : am_I} {ρ : am_R} {g : am_J} {τ : am_T} {Q : am_Q} {x0 x1 x2 x3 x4 : Value} {v : Int32} : AW d 112 56 [x0, x1, x2, x3, x4, .int v] (st) σ ρ g τ Q = AW d 112 58 [x0, x1, x2, x3, x4, .int v] (.int v :: st) σ ρ g τ Q := aw_lc m112 d112_56 rfl rfl rfl
theorem d112_58 : decode cX11_yields 58 = .ok (.iadd, 1) := by decide +kernel
theorem s112_58 {d : Nat} {st : List Value} {σ : am_I} {ρ : am_R} {g : am_J} {τ : am_T} {Q : am_Q} {x0 x1 x2 x3 x4 x5 : Value} {v w : Int32} : AW d 112 58 [x0, x1, x2, x3, x4, x5] (.int w :: .int v :: st) σ ρ g τ Q = AW d 112 59 [x0, x1, x2, x3, x4, x5] (.int (v + w) :: st) σ ρ g τ Q := aw_lc m112 d112_58 rfl rfl rfl
theorem d112_59 : decode cX11_yields 59 = .ok (.invokevirtual 139, 3) := by decide +kernel
theorem s112_59 {d : Nat} {st : List Value} {σ : am_I} {ρ : am_R} {g : am_J} {τ : am_T} {Q : am_Q} {x0 x1 x2 x3 x4 x5 : Value} {p0 : Nat} {p1 : Int32} {p2 : Int32} (ht : τ.1 p0 = 2) (hs : st.length ≤ 4) : AW (d + 1) 112 59 [x0, x1, x2, x3, x4, x5] (.int p2 :: .int p1 :: .ref p0 :: st) σ ρ g τ Q = AW d 17 0 [.ref p0, .int p1, .int p2] [] σ ρ g τ (fun r9 σ ρ g τ => AW (d + 1) 112 62 [x0, x1, x2, x3, x4, x5] (r9.toList ++ st) σ ρ g τ Q) := aw_cv m112 d112_59 rfl m17 rfl rfl (by decide) en17 ok17 rfl ht hs
theorem d112_62 : decode cX11_yields 62 = .ok (.iconst 0, 1) := by decide +kernel
theorem s112_62 {d : Nat} {st : List Value} {σ : am_I} {ρ : am_R} {g : am_J} {τ : am_T} {Q : am_Q} {x0 x1 x2 x3 x4 x5 : Value} : AW d 112 62 [x0, x1, x2, x3, x4, x5] (st) σ ρ g τ Q = AW d 112 63 [x0, x1, x2, x3, x4, x5] (.int 0 :: st) σ ρ g τ Q := aw_lc m112 d112_62 rfl rfl rfl
theorem d112_63 : decode cX11_yields 63 = .ok (.sipush 999, 3) := by decide +kernel
theorem s112_63 {d : Nat} {st : List Value} {σ : am_I} {ρ : am_R} {g : am_J} {τ : am_T} {Q : am_Q} {x0 x1 x2 x3 x4 x5 : Value} : AW d 112 63 [x0, x1, x2, x3, x4, x5] (st) σ ρ g τ Q = AW d 112 66 [x0, x1, x2, x3, x4, x5] (.int 999 :: st) σ ρ g τ Q := aw_lc m112 d112_63 rfl rfl rfl
theorem d112_66 : decode cX11_yields 66 = .ok (.invokestatic 74, 3) := by decide +kernel
theorem s112_66 {d : Nat} {st : List Value} {σ : am_I} {ρ : am_R} {g : am_J} {τ : am_T} {Q : am_Q} {x0 x1 x2 x3 x4 x5 : Value} {p0 : Int32} {p1 : Int32} {p2 : Int32} (hs : st.length ≤ 4) : AW (d + 1) 112 66 [x0, x1, x2, x3, x4, x5] (.int p2 :: .int p1 :: .int p0 :: st) σ ρ g τ Q = AW d 100 0 [.int p0, .int p1, .int p2] [] σ ρ g τ (fun r9 σ ρ g τ => AW (d + 1) 112 69 [x0, x1, x2, x3, x4, x5] (r9.toList ++ st) σ ρ g τ Q) := aw_cs m112 d112_66 rfl (by simp only [List.length_cons]; omega) rfl rfl en100 ok100 rfl hs
theorem d112_69 : decode cX11_yields 69 = .ok (.ifCond .ne 6, 3) := by decide +kernel
theorem s112_69 {d : Nat} {st : List Value} {σ : am_I} {ρ : am_R} {g : am_J} {τ : am_T} {Q : am_Q} {x0 x1 x2 x3 x4 x5 : Value} {v : Int32} : AW d 112 69 [x0, x1, x2, x3, x4, x5] (.int v :: st) σ ρ g τ Q = if ¬ v = 0 then AW d 112 75 [x0, x1, x2, x3, x4, x5] (st) σ ρ g τ Q else AW d 112 72 [x0, x1, x2, x3, x4, x5] (st) σ ρ g τ Q := aw_br m112 d112_69 rfl rfl rfl
theorem d112_72 : decode cX11_yields 72 = .ok (.bipush (-4), 2) := by decide +kernel
theorem s112_72 {d : Nat} {st : List Value} {σ : am_I} {ρ : am_R} {g : am_J} {τ : am_T} {Q : am_Q} {x0 x1 x2 x3 x4 x5 : Value} : AW d 112 72 [x0, x1, x2, x3, x4, x5] (st) σ ρ g τ Q = AW d 112 74 [x0, x1, x2, x3, x4, x5] (.int (-4) :: st) σ ρ g τ Q := aw_lc m112 d112_72 rfl rfl rfl
theorem d112_74 : decode cX11_yields 74 = .ok (.ireturn, 1) := by decide +kernel
theorem s112_74 {d : Nat} {σ : am_I} {ρ : am_R} {g : am_J} {τ : am_T} {Q : am_Q} {x0 x1 x2 x3 x4 x5 : Value} {v : Int32} : AW d 112 74 [x0, x1, x2, x3, x4, x5] ([.int v]) σ ρ g τ Q = Q (some (.int v)) σ ρ g τ := aw_ri m112 d112_74 rfl
theorem d112_75 : decode cX11_yields 75 = .ok (.iinc 5 1, 3) := by decide +kernel
theorem s112_75 {d : Nat} {st : List Value} {σ : am_I} {ρ : am_R} {g : am_J} {τ : am_T} {Q : am_Q} {x0 x1 x2 x3 : Value} {v : Int32} {u : Int32} : AW d 112 75 [x0, x1, x2, x3, .int u, .int v] (st) σ ρ g τ Q = AW d 112 78 [x0, x1, x2, x3, .int u, .int (v + 1)] (st) σ ρ g τ Q := aw_lc m112 d112_75 rfl rfl rfl
theorem d112_78 : decode cX11_yields 78 = .ok (.goto (-34), 3) := by decide +kernel
theorem s112_78 {d : Nat} {st : List Value} {σ : am_I} {ρ : am_R} {g : am_J} {τ : am_T} {Q : am_Q} {x0 x1 x2 x3 x4 x5 : Value} : AW d 112 78 [x0, x1, x2, x3, x4, x5] (st) σ ρ g τ Q = AW d 112 44 [x0, x1, x2, x3, x4, x5] (st) σ ρ g τ Q := aw_lc m112 d112_78 rfl rfl rfl
theorem d112_81 : decode cX11_yields 81 = .ok (.iconst 0, 1) := by decide +kernel
theorem s112_81 {d : Nat} {st : List Value} {σ : am_I} {ρ : am_R} {g : am_J} {τ : am_T} {Q : am_Q} {x0 x1 x2 x3 x4 x5 : Value} : AW d 112 81 [x0, x1, x2, x3, x4, x5] (st) σ ρ g τ Q = AW d 112 82 [x0, x1, x2, x3, x4, x5] (.int 0 :: st) σ ρ g τ Q := aw_lc m112 d112_81 rfl rfl rfl
theorem d112_82 : decode cX11_yields 82 = .ok (.istore 5, 2) := by decide +kernel
theorem s112_82 {d : Nat} {st : List Value} {σ : am_I} {ρ : am_R} {g : am_J} {τ : am_T} {Q : am_Q} {x0 x1 x2 x3 x5 : Value} {v : Int32} {u : Int32} : AW d 112 82 [x0, x1, x2, x3, .int u, x5] (.int v :: st) σ ρ g τ Q = AW d 112 84 [x0, x1, x2, x3, .int u, .int v] (st) σ ρ g τ Q := aw_lc m112 d112_82 rfl rfl rfl
theorem d112_84 : decode cX11_yields 84 = .ok (.iload 5, 2) := by decide +kernel
theorem s112_84 {d : Nat} {st : List Value} {σ : am_I} {ρ : am_R} {g : am_J} {τ : am_T} {Q : am_Q} {x0 x1 x2 x3 x4 : Value} {v : Int32} : AW d 112 84 [x0, x1, x2, x3, x4, .int v] (st) σ ρ g τ Q = AW d 112 86 [x0, x1, x2, x3, x4, .int v] (.int v :: st) σ ρ g τ Q := aw_lc m112 d112_84 rfl rfl rfl
theorem d112_86 : decode cX11_yields 86 = .ok (.iconst 3, 1) := by decide +kernel
theorem s112_86 {d : Nat} {st : List Value} {σ : am_I} {ρ : am_R} {g : am_J} {τ : am_T} {Q : am_Q} {x0 x1 x2 x3 x4 x5 : Value} : AW d 112 86 [x0, x1, x2, x3, x4, x5] (st) σ ρ g τ Q = AW d 112 87 [x0, x1, x2, x3, x4, x5] (.int 3 :: st) σ ρ g τ Q := aw_lc m112 d112_86 rfl rfl rfl
theorem d112_87 : decode cX11_yields 87 = .ok (.if_icmp .ge 36, 3) := by decide +kernel
theorem s112_87 {d : Nat} {st : List Value} {σ : am_I} {ρ : am_R} {g : am_J} {τ : am_T} {Q : am_Q} {x0 x1 x2 x3 x4 x5 : Value} {v w : Int32} : AW d 112 87 [x0, x1, x2, x3, x4, x5] (.int w :: .int v :: st) σ ρ g τ Q = if w ≤ v then AW d 112 123 [x0, x1, x2, x3, x4, x5] (st) σ ρ g τ Q else AW d 112 90 [x0, x1, x2, x3, x4, x5] (st) σ ρ g τ Q := aw_br m112 d112_87 rfl rfl rfl
theorem d112_90 : decode cX11_yields 90 = .ok (.aload_n 0, 1) := by decide +kernel
theorem s112_90 {d : Nat} {st : List Value} {σ : am_I} {ρ : am_R} {g : am_J} {τ : am_T} {Q : am_Q} {x1 x2 x3 x4 x5 : Value} {v : Nat} : AW d 112 90 [.ref v, x1, x2, x3, x4, x5] (st) σ ρ g τ Q = AW d 112 91 [.ref v, x1, x2, x3, x4, x5] (.ref v :: st) σ ρ g τ Q := aw_lc m112 d112_90 rfl rfl rfl
theorem d112_91 : decode cX11_yields 91 = .ok (.getfield 10, 3) := by decide +kernel
theorem s112_91 {d : Nat} {st : List Value} {σ : am_I} {ρ : am_R} {g : am_J} {τ : am_T} {Q : am_Q} {x0 x1 x2 x3 x4 x5 : Value} {a : Nat} (ht : τ.1 a = 11) : AW d 112 91 [x0, x1, x2, x3, x4, x5] (.ref a :: st) σ ρ g τ Q = AW d 112 94 [x0, x1, x2, x3, x4, x5] (va_rf (ρ a 0) :: st) σ ρ g τ Q := aw_gr m112 d112_91 rfl rfl rfl ht
theorem d112_94 : decode cX11_yields 94 = .ok (.getfield 113, 3) := by decide +kernel
theorem s112_94 {d : Nat} {st : List Value} {σ : am_I} {ρ : am_R} {g : am_J} {τ : am_T} {Q : am_Q} {x0 x1 x2 x3 x4 x5 : Value} {a : Nat} (ht : τ.1 a = 3) : AW d 112 94 [x0, x1, x2, x3, x4, x5] (.ref a :: st) σ ρ g τ Q = AW d 112 97 [x0, x1, x2, x3, x4, x5] (va_rf (ρ a 5) :: st) σ ρ g τ Q := aw_gr m112 d112_94 rfl rfl rfl ht
theorem d112_97 : decode cX11_yields 97 = .ok (.iload_n 1, 1) := by decide +kernel
theorem s112_97 {d : Nat} {st : List Value} {σ : am_I} {ρ : am_R} {g : am_J} {τ : am_T} {Q : am_Q} {x0 x2 x3 x4 x5 : Value} {v : Int32} : AW d 112 97 [x0, .int v, x2, x3, x4, x5] (st) σ ρ g τ Q = AW d 112 98 [x0, .int v, x2, x3, x4, x5] (.int v :: st) σ ρ g τ Q := aw_lc m112 d112_97 rfl rfl rfl
theorem d112_98 : decode cX11_yields 98 = .ok (.aaload, 1) := by decide +kernel
theorem s112_98 {d : Nat} {st : List Value} {σ : am_I} {ρ : am_R} {g : am_J} {τ : am_T} {Q : am_Q} {x0 x1 x2 x3 x4 x5 : Value} {a : Nat} {j : Int32} (ht : 18 ≤ τ.1 a ∧ τ.1 a ≤ 22) (hj : am_inb j (τ.2.1 a) = true) : AW d 112 98 [x0, x1, x2, x3, x4, x5] (.int j :: .ref a :: st) σ ρ g τ Q = AW d 112 99 [x0, x1, x2, x3, x4, x5] (va_rf (ρ a j.toNatClampNeg) :: st) σ ρ g τ Q := aw_aal m112 d112_98 rfl ht hj
theorem d112_99 : decode cX11_yields 99 = .ok (.getfield 129, 3) := by decide +kernel
theorem s112_99 {d : Nat} {st : List Value} {σ : am_I} {ρ : am_R} {g : am_J} {τ : am_T} {Q : am_Q} {x0 x1 x2 x3 x4 x5 : Value} {a : Nat} (ht : τ.1 a = 7) : AW d 112 99 [x0, x1, x2, x3, x4, x5] (.ref a :: st) σ ρ g τ Q = AW d 112 102 [x0, x1, x2, x3, x4, x5] (va_rf (ρ a 4) :: st) σ ρ g τ Q := aw_gr m112 d112_99 rfl rfl rfl ht
theorem d112_102 : decode cX11_yields 102 = .ok (.iload 5, 2) := by decide +kernel
theorem s112_102 {d : Nat} {st : List Value} {σ : am_I} {ρ : am_R} {g : am_J} {τ : am_T} {Q : am_Q} {x0 x1 x2 x3 x4 : Value} {v : Int32} : AW d 112 102 [x0, x1, x2, x3, x4, .int v] (st) σ ρ g τ Q = AW d 112 104 [x0, x1, x2, x3, x4, .int v] (.int v :: st) σ ρ g τ Q := aw_lc m112 d112_102 rfl rfl rfl
theorem d112_104 : decode cX11_yields 104 = .ok (.aload_n 0, 1) := by decide +kernel
theorem s112_104 {d : Nat} {st : List Value} {σ : am_I} {ρ : am_R} {g : am_J} {τ : am_T} {Q : am_Q} {x1 x2 x3 x4 x5 : Value} {v : Nat} : AW d 112 104 [.ref v, x1, x2, x3, x4, x5] (st) σ ρ g τ Q = AW d 112 105 [.ref v, x1, x2, x3, x4, x5] (.ref v :: st) σ ρ g τ Q := aw_lc m112 d112_104 rfl rfl rfl
theorem d112_105 : decode cX11_yields 105 = .ok (.getfield 56, 3) := by decide +kernel
theorem s112_105 {d : Nat} {st : List Value} {σ : am_I} {ρ : am_R} {g : am_J} {τ : am_T} {Q : am_Q} {x0 x1 x2 x3 x4 x5 : Value} {a : Nat} (ht : τ.1 a = 11) : AW d 112 105 [x0, x1, x2, x3, x4, x5] (.ref a :: st) σ ρ g τ Q = AW d 112 108 [x0, x1, x2, x3, x4, x5] (va_rf (ρ a 7) :: st) σ ρ g τ Q := aw_gr m112 d112_105 rfl rfl rfl ht
theorem d112_108 : decode cX11_yields 108 = .ok (.iload_n 2, 1) := by decide +kernel
theorem s112_108 {d : Nat} {st : List Value} {σ : am_I} {ρ : am_R} {g : am_J} {τ : am_T} {Q : am_Q} {x0 x1 x3 x4 x5 : Value} {v : Int32} : AW d 112 108 [x0, x1, .int v, x3, x4, x5] (st) σ ρ g τ Q = AW d 112 109 [x0, x1, .int v, x3, x4, x5] (.int v :: st) σ ρ g τ Q := aw_lc m112 d112_108 rfl rfl rfl
theorem d112_109 : decode cX11_yields 109 = .ok (.iload_n 3, 1) := by decide +kernel
theorem s112_109 {d : Nat} {st : List Value} {σ : am_I} {ρ : am_R} {g : am_J} {τ : am_T} {Q : am_Q} {x0 x1 x2 x4 x5 : Value} {v : Int32} : AW d 112 109 [x0, x1, x2, .int v, x4, x5] (st) σ ρ g τ Q = AW d 112 110 [x0, x1, x2, .int v, x4, x5] (.int v :: st) σ ρ g τ Q := aw_lc m112 d112_109 rfl rfl rfl
theorem d112_110 : decode cX11_yields 110 = .ok (.iload 5, 2) := by decide +kernel
theorem s112_110 {d : Nat} {st : List Value} {σ : am_I} {ρ : am_R} {g : am_J} {τ : am_T} {Q : am_Q} {x0 x1 x2 x3 x4 : Value} {v : Int32} : AW d 112 110 [x0, x1, x2, x3, x4, .int v] (st) σ ρ g τ Q = AW d 112 112 [x0, x1, x2, x3, x4, .int v] (.int v :: st) σ ρ g τ Q := aw_lc m112 d112_110 rfl rfl rfl
theorem d112_112 : decode cX11_yields 112 = .ok (.iadd, 1) := by decide +kernel
theorem s112_112 {d : Nat} {st : List Value} {σ : am_I} {ρ : am_R} {g : am_J} {τ : am_T} {Q : am_Q} {x0 x1 x2 x3 x4 x5 : Value} {v w : Int32} : AW d 112 112 [x0, x1, x2, x3, x4, x5] (.int w :: .int v :: st) σ ρ g τ Q = AW d 112 113 [x0, x1, x2, x3, x4, x5] (.int (v + w) :: st) σ ρ g τ Q := aw_lc m112 d112_112 rfl rfl rfl
theorem d112_113 : decode cX11_yields 113 = .ok (.invokevirtual 139, 3) := by decide +kernel
theorem s112_113 {d : Nat} {st : List Value} {σ : am_I} {ρ : am_R} {g : am_J} {τ : am_T} {Q : am_Q} {x0 x1 x2 x3 x4 x5 : Value} {p0 : Nat} {p1 : Int32} {p2 : Int32} (ht : τ.1 p0 = 2) (hs : st.length ≤ 4) : AW (d + 1) 112 113 [x0, x1, x2, x3, x4, x5] (.int p2 :: .int p1 :: .ref p0 :: st) σ ρ g τ Q = AW d 17 0 [.ref p0, .int p1, .int p2] [] σ ρ g τ (fun r9 σ ρ g τ => AW (d + 1) 112 116 [x0, x1, x2, x3, x4, x5] (r9.toList ++ st) σ ρ g τ Q) := aw_cv m112 d112_113 rfl m17 rfl rfl (by decide) en17 ok17 rfl ht hs
theorem d112_116 : decode cX11_yields 116 = .ok (.iastore, 1) := by decide +kernel
theorem s112_116 {d : Nat} {st : List Value} {σ : am_I} {ρ : am_R} {g : am_J} {τ : am_T} {Q : am_Q} {x0 x1 x2 x3 x4 x5 : Value} {a : Nat} {j v : Int32} (ht : τ.1 a = 15) (ha : a < am_BG) (hj : am_inb j (τ.2.1 a) = true) : AW d 112 116 [x0, x1, x2, x3, x4, x5] (.int v :: .int j :: .ref a :: st) σ ρ g τ Q = AW d 112 117 [x0, x1, x2, x3, x4, x5] (st) (am_u σ a j.toNatClampNeg v) ρ g τ Q := aw_ias m112 d112_116 rfl ht ha hj
theorem d112_117 : decode cX11_yields 117 = .ok (.iinc 5 1, 3) := by decide +kernel
theorem s112_117 {d : Nat} {st : List Value} {σ : am_I} {ρ : am_R} {g : am_J} {τ : am_T} {Q : am_Q} {x0 x1 x2 x3 : Value} {v : Int32} {u : Int32} : AW d 112 117 [x0, x1, x2, x3, .int u, .int v] (st) σ ρ g τ Q = AW d 112 120 [x0, x1, x2, x3, .int u, .int (v + 1)] (st) σ ρ g τ Q := aw_lc m112 d112_117 rfl rfl rfl
theorem d112_120 : decode cX11_yields 120 = .ok (.goto (-36), 3) := by decide +kernel
theorem s112_120 {d : Nat} {st : List Value} {σ : am_I} {ρ : am_R} {g : am_J} {τ : am_T} {Q : am_Q} {x0 x1 x2 x3 x4 x5 : Value} : AW d 112 120 [x0, x1, x2, x3, x4, x5] (st) σ ρ g τ Q = AW d 112 84 [x0, x1, x2, x3, x4, x5] (st) σ ρ g τ Q := aw_lc m112 d112_120 rfl rfl rfl
theorem d112_123 : decode cX11_yields 123 = .ok (.iconst 1, 1) := by decide +kernel
theorem s112_123 {d : Nat} {st : List Value} {σ : am_I} {ρ : am_R} {g : am_J} {τ : am_T} {Q : am_Q} {x0 x1 x2 x3 x4 x5 : Value} : AW d 112 123 [x0, x1, x2, x3, x4, x5] (st) σ ρ g τ Q = AW d 112 124 [x0, x1, x2, x3, x4, x5] (.int 1 :: st) σ ρ g τ Q := aw_lc m112 d112_123 rfl rfl rfl
theorem d112_124 : decode cX11_yields 124 = .ok (.ireturn, 1) := by decide +kernel
theorem s112_124 {d : Nat} {σ : am_I} {ρ : am_R} {g : am_J} {τ : am_T} {Q : am_Q} {x0 x1 x2 x3 x4 x5 : Value} {v : Int32} : AW d 112 124 [x0, x1, x2, x3, x4, x5] ([.int v]) σ ρ g τ Q = Q (some (.int v)) σ ρ g τ := aw_ri m112 d112_124 rfl
theorem d113_0 : decode cX11_guards 0 = .ok (.aload_n 0, 1) := by decide +kernel
theorem s113_0 {d : Nat} {st : List Value} {σ : am_I} {ρ : am_R} {g : am_J} {τ : am_T} {Q : am_Q} {x1 x2 x3 : Value} {v : Nat} : AW d 113 0 [.ref v, x1, x2, x3] (st) σ ρ g τ Q = AW d 113 1 [.ref v, x1, x2, x3] (.ref v :: st) σ ρ g τ Q := aw_lc m113 d113_0 rfl rfl rfl
theorem d113_1 : decode cX11_guards 1 = .ok (.getfield 10, 3) := by decide +kernel
theorem s113_1 {d : Nat} {st : List Value} {σ : am_I} {ρ : am_R} {g : am_J} {τ : am_T} {Q : am_Q} {x0 x1 x2 x3 : Value} {a : Nat} (ht : τ.1 a = 11) : AW d 113 1 [x0, x1, x2, x3] (.ref a :: st) σ ρ g τ Q = AW d 113 4 [x0, x1, x2, x3] (va_rf (ρ a 0) :: st) σ ρ g τ Q := aw_gr m113 d113_1 rfl rfl rfl ht
theorem d113_4 : decode cX11_guards 4 = .ok (.iload_n 1, 1) := by decide +kernel
theorem s113_4 {d : Nat} {st : List Value} {σ : am_I} {ρ : am_R} {g : am_J} {τ : am_T} {Q : am_Q} {x0 x2 x3 : Value} {v : Int32} : AW d 113 4 [x0, .int v, x2, x3] (st) σ ρ g τ Q = AW d 113 5 [x0, .int v, x2, x3] (.int v :: st) σ ρ g τ Q := aw_lc m113 d113_4 rfl rfl rfl
theorem d113_5 : decode cX11_guards 5 = .ok (.invokevirtual 122, 3) := by decide +kernel
theorem s113_5 {d : Nat} {st : List Value} {σ : am_I} {ρ : am_R} {g : am_J} {τ : am_T} {Q : am_Q} {x0 x1 x2 x3 : Value} {p0 : Nat} {p1 : Int32} (ht : τ.1 p0 = 3) (hs : st.length ≤ 4) : AW (d + 1) 113 5 [x0, x1, x2, x3] (.int p1 :: .ref p0 :: st) σ ρ g τ Q = AW d 23 0 [.ref p0, .int p1] [] σ ρ g τ (fun r9 σ ρ g τ => AW (d + 1) 113 8 [x0, x1, x2, x3] (r9.toList ++ st) σ ρ g τ Q) := aw_cv m113 d113_5 rfl m23 rfl rfl (by decide) en23 ok23 rfl ht hs
theorem d113_8 : decode cX11_guards 8 = .ok (.ifCond .eq 13, 3) := by decide +kernel
theorem s113_8 {d : Nat} {st : List Value} {σ : am_I} {ρ : am_R} {g : am_J} {τ : am_T} {Q : am_Q} {x0 x1 x2 x3 : Value} {v : Int32} : AW d 113 8 [x0, x1, x2, x3] (.int v :: st) σ ρ g τ Q = if v = 0 then AW d 113 21 [x0, x1, x2, x3] (st) σ ρ g τ Q else AW d 113 11 [x0, x1, x2, x3] (st) σ ρ g τ Q := aw_br m113 d113_8 rfl rfl rfl
theorem d113_11 : decode cX11_guards 11 = .ok (.iload_n 2, 1) := by decide +kernel
theorem s113_11 {d : Nat} {st : List Value} {σ : am_I} {ρ : am_R} {g : am_J} {τ : am_T} {Q : am_Q} {x0 x1 x3 : Value} {v : Int32} : AW d 113 11 [x0, x1, .int v, x3] (st) σ ρ g τ Q = AW d 113 12 [x0, x1, .int v, x3] (.int v :: st) σ ρ g τ Q := aw_lc m113 d113_11 rfl rfl rfl
theorem d113_12 : decode cX11_guards 12 = .ok (.iconst 0, 1) := by decide +kernel
theorem s113_12 {d : Nat} {st : List Value} {σ : am_I} {ρ : am_R} {g : am_J} {τ : am_T} {Q : am_Q} {x0 x1 x2 x3 : Value} : AW d 113 12 [x0, x1, x2, x3] (st) σ ρ g τ Q = AW d 113 13 [x0, x1, x2, x3] (.int 0 :: st) σ ρ g τ Q := aw_lc m113 d113_12 rfl rfl rfl
theorem d113_13 : decode cX11_guards 13 = .ok (.bipush 9, 2) := by decide +kernel
theorem s113_13 {d : Nat} {st : List Value} {σ : am_I} {ρ : am_R} {g : am_J} {τ : am_T} {Q : am_Q} {x0 x1 x2 x3 : Value} : AW d 113 13 [x0, x1, x2, x3] (st) σ ρ g τ Q = AW d 113 15 [x0, x1, x2, x3] (.int 9 :: st) σ ρ g τ Q := aw_lc m113 d113_13 rfl rfl rfl
theorem d113_15 : decode cX11_guards 15 = .ok (.invokestatic 74, 3) := by decide +kernel
theorem s113_15 {d : Nat} {st : List Value} {σ : am_I} {ρ : am_R} {g : am_J} {τ : am_T} {Q : am_Q} {x0 x1 x2 x3 : Value} {p0 : Int32} {p1 : Int32} {p2 : Int32} (hs : st.length ≤ 4) : AW (d + 1) 113 15 [x0, x1, x2, x3] (.int p2 :: .int p1 :: .int p0 :: st) σ ρ g τ Q = AW d 100 0 [.int p0, .int p1, .int p2] [] σ ρ g τ (fun r9 σ ρ g τ => AW (d + 1) 113 18 [x0, x1, x2, x3] (r9.toList ++ st) σ ρ g τ Q) := aw_cs m113 d113_15 rfl (by simp only [List.length_cons]; omega) rfl rfl en100 ok100 rfl hs
theorem d113_18 : decode cX11_guards 18 = .ok (.ifCond .ne 5, 3) := by decide +kernel
theorem s113_18 {d : Nat} {st : List Value} {σ : am_I} {ρ : am_R} {g : am_J} {τ : am_T} {Q : am_Q} {x0 x1 x2 x3 : Value} {v : Int32} : AW d 113 18 [x0, x1, x2, x3] (.int v :: st) σ ρ g τ Q = if ¬ v = 0 then AW d 113 23 [x0, x1, x2, x3] (st) σ ρ g τ Q else AW d 113 21 [x0, x1, x2, x3] (st) σ ρ g τ Q := aw_br m113 d113_18 rfl rfl rfl
theorem d113_21 : decode cX11_guards 21 = .ok (.iconst (-1), 1) := by decide +kernel
theorem s113_21 {d : Nat} {st : List Value} {σ : am_I} {ρ : am_R} {g : am_J} {τ : am_T} {Q : am_Q} {x0 x1 x2 x3 : Value} : AW d 113 21 [x0, x1, x2, x3] (st) σ ρ g τ Q = AW d 113 22 [x0, x1, x2, x3] (.int (-1) :: st) σ ρ g τ Q := aw_lc m113 d113_21 rfl rfl rfl
theorem d113_22 : decode cX11_guards 22 = .ok (.ireturn, 1) := by decide +kernel
theorem s113_22 {d : Nat} {σ : am_I} {ρ : am_R} {g : am_J} {τ : am_T} {Q : am_Q} {x0 x1 x2 x3 : Value} {v : Int32} : AW d 113 22 [x0, x1, x2, x3] ([.int v]) σ ρ g τ Q = Q (some (.int v)) σ ρ g τ := aw_ri m113 d113_22 rfl
theorem d113_23 : decode cX11_guards 23 = .ok (.aload_n 0, 1) := by decide +kernel
theorem s113_23 {d : Nat} {st : List Value} {σ : am_I} {ρ : am_R} {g : am_J} {τ : am_T} {Q : am_Q} {x1 x2 x3 : Value} {v : Nat} : AW d 113 23 [.ref v, x1, x2, x3] (st) σ ρ g τ Q = AW d 113 24 [.ref v, x1, x2, x3] (.ref v :: st) σ ρ g τ Q := aw_lc m113 d113_23 rfl rfl rfl
theorem d113_24 : decode cX11_guards 24 = .ok (.getfield 10, 3) := by decide +kernel
theorem s113_24 {d : Nat} {st : List Value} {σ : am_I} {ρ : am_R} {g : am_J} {τ : am_T} {Q : am_Q} {x0 x1 x2 x3 : Value} {a : Nat} (ht : τ.1 a = 11) : AW d 113 24 [x0, x1, x2, x3] (.ref a :: st) σ ρ g τ Q = AW d 113 27 [x0, x1, x2, x3] (va_rf (ρ a 0) :: st) σ ρ g τ Q := aw_gr m113 d113_24 rfl rfl rfl ht
theorem d113_27 : decode cX11_guards 27 = .ok (.getfield 113, 3) := by decide +kernel
theorem s113_27 {d : Nat} {st : List Value} {σ : am_I} {ρ : am_R} {g : am_J} {τ : am_T} {Q : am_Q} {x0 x1 x2 x3 : Value} {a : Nat} (ht : τ.1 a = 3) : AW d 113 27 [x0, x1, x2, x3] (.ref a :: st) σ ρ g τ Q = AW d 113 30 [x0, x1, x2, x3] (va_rf (ρ a 5) :: st) σ ρ g τ Q := aw_gr m113 d113_27 rfl rfl rfl ht
theorem d113_30 : decode cX11_guards 30 = .ok (.iload_n 1, 1) := by decide +kernel
theorem s113_30 {d : Nat} {st : List Value} {σ : am_I} {ρ : am_R} {g : am_J} {τ : am_T} {Q : am_Q} {x0 x2 x3 : Value} {v : Int32} : AW d 113 30 [x0, .int v, x2, x3] (st) σ ρ g τ Q = AW d 113 31 [x0, .int v, x2, x3] (.int v :: st) σ ρ g τ Q := aw_lc m113 d113_30 rfl rfl rfl
theorem d113_31 : decode cX11_guards 31 = .ok (.aaload, 1) := by decide +kernel
theorem s113_31 {d : Nat} {st : List Value} {σ : am_I} {ρ : am_R} {g : am_J} {τ : am_T} {Q : am_Q} {x0 x1 x2 x3 : Value} {a : Nat} {j : Int32} (ht : 18 ≤ τ.1 a ∧ τ.1 a ≤ 22) (hj : am_inb j (τ.2.1 a) = true) : AW d 113 31 [x0, x1, x2, x3] (.int j :: .ref a :: st) σ ρ g τ Q = AW d 113 32 [x0, x1, x2, x3] (va_rf (ρ a j.toNatClampNeg) :: st) σ ρ g τ Q := aw_aal m113 d113_31 rfl ht hj
theorem d113_32 : decode cX11_guards 32 = .ok (.getfield 143, 3) := by decide +kernel
theorem s113_32 {d : Nat} {st : List Value} {σ : am_I} {ρ : am_R} {g : am_J} {τ : am_T} {Q : am_Q} {x0 x1 x2 x3 : Value} {a : Nat} (ht : τ.1 a = 7) : AW d 113 32 [x0, x1, x2, x3] (.ref a :: st) σ ρ g τ Q = AW d 113 35 [x0, x1, x2, x3] (.int (σ a 3) :: st) σ ρ g τ Q := aw_gi m113 d113_32 rfl rfl rfl ht
theorem d113_35 : decode cX11_guards 35 = .ok (.istore_n 3, 1) := by decide +kernel
theorem s113_35 {d : Nat} {st : List Value} {σ : am_I} {ρ : am_R} {g : am_J} {τ : am_T} {Q : am_Q} {x0 x1 x3 : Value} {v : Int32} {u : Int32} : AW d 113 35 [x0, x1, .int u, x3] (.int v :: st) σ ρ g τ Q = AW d 113 36 [x0, x1, .int u, .int v] (st) σ ρ g τ Q := aw_lc m113 d113_35 rfl rfl rfl
theorem d113_36 : decode cX11_guards 36 = .ok (.aload_n 0, 1) := by decide +kernel
theorem s113_36 {d : Nat} {st : List Value} {σ : am_I} {ρ : am_R} {g : am_J} {τ : am_T} {Q : am_Q} {x1 x2 x3 : Value} {v : Nat} : AW d 113 36 [.ref v, x1, x2, x3] (st) σ ρ g τ Q = AW d 113 37 [.ref v, x1, x2, x3] (.ref v :: st) σ ρ g τ Q := aw_lc m113 d113_36 rfl rfl rfl
theorem d113_37 : decode cX11_guards 37 = .ok (.getfield 10, 3) := by decide +kernel
theorem s113_37 {d : Nat} {st : List Value} {σ : am_I} {ρ : am_R} {g : am_J} {τ : am_T} {Q : am_Q} {x0 x1 x2 x3 : Value} {a : Nat} (ht : τ.1 a = 11) : AW d 113 37 [x0, x1, x2, x3] (.ref a :: st) σ ρ g τ Q = AW d 113 40 [x0, x1, x2, x3] (va_rf (ρ a 0) :: st) σ ρ g τ Q := aw_gr m113 d113_37 rfl rfl rfl ht
theorem d113_40 : decode cX11_guards 40 = .ok (.getfield 113, 3) := by decide +kernel
theorem s113_40 {d : Nat} {st : List Value} {σ : am_I} {ρ : am_R} {g : am_J} {τ : am_T} {Q : am_Q} {x0 x1 x2 x3 : Value} {a : Nat} (ht : τ.1 a = 3) : AW d 113 40 [x0, x1, x2, x3] (.ref a :: st) σ ρ g τ Q = AW d 113 43 [x0, x1, x2, x3] (va_rf (ρ a 5) :: st) σ ρ g τ Q := aw_gr m113 d113_40 rfl rfl rfl ht
theorem d113_43 : decode cX11_guards 43 = .ok (.iload_n 1, 1) := by decide +kernel
theorem s113_43 {d : Nat} {st : List Value} {σ : am_I} {ρ : am_R} {g : am_J} {τ : am_T} {Q : am_Q} {x0 x2 x3 : Value} {v : Int32} : AW d 113 43 [x0, .int v, x2, x3] (st) σ ρ g τ Q = AW d 113 44 [x0, .int v, x2, x3] (.int v :: st) σ ρ g τ Q := aw_lc m113 d113_43 rfl rfl rfl
theorem d113_44 : decode cX11_guards 44 = .ok (.aaload, 1) := by decide +kernel
theorem s113_44 {d : Nat} {st : List Value} {σ : am_I} {ρ : am_R} {g : am_J} {τ : am_T} {Q : am_Q} {x0 x1 x2 x3 : Value} {a : Nat} {j : Int32} (ht : 18 ≤ τ.1 a ∧ τ.1 a ≤ 22) (hj : am_inb j (τ.2.1 a) = true) : AW d 113 44 [x0, x1, x2, x3] (.int j :: .ref a :: st) σ ρ g τ Q = AW d 113 45 [x0, x1, x2, x3] (va_rf (ρ a j.toNatClampNeg) :: st) σ ρ g τ Q := aw_aal m113 d113_44 rfl ht hj
theorem d113_45 : decode cX11_guards 45 = .ok (.iload_n 2, 1) := by decide +kernel
theorem s113_45 {d : Nat} {st : List Value} {σ : am_I} {ρ : am_R} {g : am_J} {τ : am_T} {Q : am_Q} {x0 x1 x3 : Value} {v : Int32} : AW d 113 45 [x0, x1, .int v, x3] (st) σ ρ g τ Q = AW d 113 46 [x0, x1, .int v, x3] (.int v :: st) σ ρ g τ Q := aw_lc m113 d113_45 rfl rfl rfl
theorem d113_46 : decode cX11_guards 46 = .ok (.putfield 143, 3) := by decide +kernel
theorem s113_46 {d : Nat} {st : List Value} {σ : am_I} {ρ : am_R} {g : am_J} {τ : am_T} {Q : am_Q} {x0 x1 x2 x3 : Value} {a : Nat} {v : Int32} (ht : τ.1 a = 7) : AW d 113 46 [x0, x1, x2, x3] (.int v :: .ref a :: st) σ ρ g τ Q = AW d 113 49 [x0, x1, x2, x3] (st) (am_u σ a 3 v) ρ g τ Q := aw_pi m113 d113_46 rfl rfl (Or.inl rfl) rfl ht
theorem d113_49 : decode cX11_guards 49 = .ok (.iload_n 3, 1) := by decide +kernel
theorem s113_49 {d : Nat} {st : List Value} {σ : am_I} {ρ : am_R} {g : am_J} {τ : am_T} {Q : am_Q} {x0 x1 x2 : Value} {v : Int32} : AW d 113 49 [x0, x1, x2, .int v] (st) σ ρ g τ Q = AW d 113 50 [x0, x1, x2, .int v] (.int v :: st) σ ρ g τ Q := aw_lc m113 d113_49 rfl rfl rfl
theorem d113_50 : decode cX11_guards 50 = .ok (.ireturn, 1) := by decide +kernel
theorem s113_50 {d : Nat} {σ : am_I} {ρ : am_R} {g : am_J} {τ : am_T} {Q : am_Q} {x0 x1 x2 x3 : Value} {v : Int32} : AW d 113 50 [x0, x1, x2, x3] ([.int v]) σ ρ g τ Q = Q (some (.int v)) σ ρ g τ := aw_ri m113 d113_50 rfl
theorem d114_0 : decode cX11_rate 0 = .ok (.iload_n 1, 1) := by decide +kernel
theorem s114_0 {d : Nat} {st : List Value} {σ : am_I} {ρ : am_R} {g : am_J} {τ : am_T} {Q : am_Q} {x0 x2 x3 : Value} {v : Int32} : AW d 114 0 [x0, .int v, x2, x3] (st) σ ρ g τ Q = AW d 114 1 [x0, .int v, x2, x3] (.int v :: st) σ ρ g τ Q := aw_lc m114 d114_0 rfl rfl rfl
theorem d114_1 : decode cX11_rate 1 = .ok (.invokestatic 126, 3) := by decide +kernel
theorem s114_1 {d : Nat} {st : List Value} {σ : am_I} {ρ : am_R} {g : am_J} {τ : am_T} {Q : am_Q} {x0 x1 x2 x3 : Value} {p0 : Int32} (hs : st.length ≤ 4) : AW (d + 1) 114 1 [x0, x1, x2, x3] (.int p0 :: st) σ ρ g τ Q = AW d 102 0 [.int p0] [] σ ρ g τ (fun r9 σ ρ g τ => AW (d + 1) 114 4 [x0, x1, x2, x3] (r9.toList ++ st) σ ρ g τ Q) := aw_cs m114 d114_1 rfl (by simp only [List.length_cons]; omega) rfl rfl en102 ok102 rfl hs
theorem d114_4 : decode cX11_rate 4 = .ok (.ifCond .eq 13, 3) := by decide +kernel
theorem s114_4 {d : Nat} {st : List Value} {σ : am_I} {ρ : am_R} {g : am_J} {τ : am_T} {Q : am_Q} {x0 x1 x2 x3 : Value} {v : Int32} : AW d 114 4 [x0, x1, x2, x3] (.int v :: st) σ ρ g τ Q = if v = 0 then AW d 114 17 [x0, x1, x2, x3] (st) σ ρ g τ Q else AW d 114 7 [x0, x1, x2, x3] (st) σ ρ g τ Q := aw_br m114 d114_4 rfl rfl rfl
theorem d114_7 : decode cX11_rate 7 = .ok (.iload_n 2, 1) := by decide +kernel
theorem s114_7 {d : Nat} {st : List Value} {σ : am_I} {ρ : am_R} {g : am_J} {τ : am_T} {Q : am_Q} {x0 x1 x3 : Value} {v : Int32} : AW d 114 7 [x0, x1, .int v, x3] (st) σ ρ g τ Q = AW d 114 8 [x0, x1, .int v, x3] (.int v :: st) σ ρ g τ Q := aw_lc m114 d114_7 rfl rfl rfl
theorem d114_8 : decode cX11_rate 8 = .ok (.iconst 0, 1) := by decide +kernel
theorem s114_8 {d : Nat} {st : List Value} {σ : am_I} {ρ : am_R} {g : am_J} {τ : am_T} {Q : am_Q} {x0 x1 x2 x3 : Value} : AW d 114 8 [x0, x1, x2, x3] (st) σ ρ g τ Q = AW d 114 9 [x0, x1, x2, x3] (.int 0 :: st) σ ρ g τ Q := aw_lc m114 d114_8 rfl rfl rfl
theorem d114_9 : decode cX11_rate 9 = .ok (.bipush 100, 2) := by decide +kernel
theorem s114_9 {d : Nat} {st : List Value} {σ : am_I} {ρ : am_R} {g : am_J} {τ : am_T} {Q : am_Q} {x0 x1 x2 x3 : Value} : AW d 114 9 [x0, x1, x2, x3] (st) σ ρ g τ Q = AW d 114 11 [x0, x1, x2, x3] (.int 100 :: st) σ ρ g τ Q := aw_lc m114 d114_9 rfl rfl rfl
theorem d114_11 : decode cX11_rate 11 = .ok (.invokestatic 74, 3) := by decide +kernel
theorem s114_11 {d : Nat} {st : List Value} {σ : am_I} {ρ : am_R} {g : am_J} {τ : am_T} {Q : am_Q} {x0 x1 x2 x3 : Value} {p0 : Int32} {p1 : Int32} {p2 : Int32} (hs : st.length ≤ 4) : AW (d + 1) 114 11 [x0, x1, x2, x3] (.int p2 :: .int p1 :: .int p0 :: st) σ ρ g τ Q = AW d 100 0 [.int p0, .int p1, .int p2] [] σ ρ g τ (fun r9 σ ρ g τ => AW (d + 1) 114 14 [x0, x1, x2, x3] (r9.toList ++ st) σ ρ g τ Q) := aw_cs m114 d114_11 rfl (by simp only [List.length_cons]; omega) rfl rfl en100 ok100 rfl hs
theorem d114_14 : decode cX11_rate 14 = .ok (.ifCond .ne 5, 3) := by decide +kernel
theorem s114_14 {d : Nat} {st : List Value} {σ : am_I} {ρ : am_R} {g : am_J} {τ : am_T} {Q : am_Q} {x0 x1 x2 x3 : Value} {v : Int32} : AW d 114 14 [x0, x1, x2, x3] (.int v :: st) σ ρ g τ Q = if ¬ v = 0 then AW d 114 19 [x0, x1, x2, x3] (st) σ ρ g τ Q else AW d 114 17 [x0, x1, x2, x3] (st) σ ρ g τ Q := aw_br m114 d114_14 rfl rfl rfl
theorem d114_17 : decode cX11_rate 17 = .ok (.iconst (-1), 1) := by decide +kernel
theorem s114_17 {d : Nat} {st : List Value} {σ : am_I} {ρ : am_R} {g : am_J} {τ : am_T} {Q : am_Q} {x0 x1 x2 x3 : Value} : AW d 114 17 [x0, x1, x2, x3] (st) σ ρ g τ Q = AW d 114 18 [x0, x1, x2, x3] (.int (-1) :: st) σ ρ g τ Q := aw_lc m114 d114_17 rfl rfl rfl
theorem d114_18 : decode cX11_rate 18 = .ok (.ireturn, 1) := by decide +kernel
theorem s114_18 {d : Nat} {σ : am_I} {ρ : am_R} {g : am_J} {τ : am_T} {Q : am_Q} {x0 x1 x2 x3 : Value} {v : Int32} : AW d 114 18 [x0, x1, x2, x3] ([.int v]) σ ρ g τ Q = Q (some (.int v)) σ ρ g τ := aw_ri m114 d114_18 rfl
theorem d114_19 : decode cX11_rate 19 = .ok (.aload_n 0, 1) := by decide +kernel
theorem s114_19 {d : Nat} {st : List Value} {σ : am_I} {ρ : am_R} {g : am_J} {τ : am_T} {Q : am_Q} {x1 x2 x3 : Value} {v : Nat} : AW d 114 19 [.ref v, x1, x2, x3] (st) σ ρ g τ Q = AW d 114 20 [.ref v, x1, x2, x3] (.ref v :: st) σ ρ g τ Q := aw_lc m114 d114_19 rfl rfl rfl
theorem d114_20 : decode cX11_rate 20 = .ok (.getfield 10, 3) := by decide +kernel
theorem s114_20 {d : Nat} {st : List Value} {σ : am_I} {ρ : am_R} {g : am_J} {τ : am_T} {Q : am_Q} {x0 x1 x2 x3 : Value} {a : Nat} (ht : τ.1 a = 11) : AW d 114 20 [x0, x1, x2, x3] (.ref a :: st) σ ρ g τ Q = AW d 114 23 [x0, x1, x2, x3] (va_rf (ρ a 0) :: st) σ ρ g τ Q := aw_gr m114 d114_20 rfl rfl rfl ht
theorem d114_23 : decode cX11_rate 23 = .ok (.getfield 89, 3) := by decide +kernel
theorem s114_23 {d : Nat} {st : List Value} {σ : am_I} {ρ : am_R} {g : am_J} {τ : am_T} {Q : am_Q} {x0 x1 x2 x3 : Value} {a : Nat} (ht : τ.1 a = 3) : AW d 114 23 [x0, x1, x2, x3] (.ref a :: st) σ ρ g τ Q = AW d 114 26 [x0, x1, x2, x3] (va_rf (ρ a 2) :: st) σ ρ g τ Q := aw_gr m114 d114_23 rfl rfl rfl ht
theorem d114_26 : decode cX11_rate 26 = .ok (.iload_n 1, 1) := by decide +kernel
theorem s114_26 {d : Nat} {st : List Value} {σ : am_I} {ρ : am_R} {g : am_J} {τ : am_T} {Q : am_Q} {x0 x2 x3 : Value} {v : Int32} : AW d 114 26 [x0, .int v, x2, x3] (st) σ ρ g τ Q = AW d 114 27 [x0, .int v, x2, x3] (.int v :: st) σ ρ g τ Q := aw_lc m114 d114_26 rfl rfl rfl
theorem d114_27 : decode cX11_rate 27 = .ok (.iaload, 1) := by decide +kernel
theorem s114_27 {d : Nat} {st : List Value} {σ : am_I} {ρ : am_R} {g : am_J} {τ : am_T} {Q : am_Q} {x0 x1 x2 x3 : Value} {a : Nat} {j : Int32} (ht : τ.1 a = 15) (hj : am_inb j (τ.2.1 a) = true) : AW d 114 27 [x0, x1, x2, x3] (.int j :: .ref a :: st) σ ρ g τ Q = AW d 114 28 [x0, x1, x2, x3] (.int (σ a j.toNatClampNeg) :: st) σ ρ g τ Q := aw_ial m114 d114_27 rfl ht hj
theorem d114_28 : decode cX11_rate 28 = .ok (.istore_n 3, 1) := by decide +kernel
theorem s114_28 {d : Nat} {st : List Value} {σ : am_I} {ρ : am_R} {g : am_J} {τ : am_T} {Q : am_Q} {x0 x1 x3 : Value} {v : Int32} {u : Int32} : AW d 114 28 [x0, x1, .int u, x3] (.int v :: st) σ ρ g τ Q = AW d 114 29 [x0, x1, .int u, .int v] (st) σ ρ g τ Q := aw_lc m114 d114_28 rfl rfl rfl
theorem d114_29 : decode cX11_rate 29 = .ok (.aload_n 0, 1) := by decide +kernel
theorem s114_29 {d : Nat} {st : List Value} {σ : am_I} {ρ : am_R} {g : am_J} {τ : am_T} {Q : am_Q} {x1 x2 x3 : Value} {v : Nat} : AW d 114 29 [.ref v, x1, x2, x3] (st) σ ρ g τ Q = AW d 114 30 [.ref v, x1, x2, x3] (.ref v :: st) σ ρ g τ Q := aw_lc m114 d114_29 rfl rfl rfl
theorem d114_30 : decode cX11_rate 30 = .ok (.getfield 10, 3) := by decide +kernel
theorem s114_30 {d : Nat} {st : List Value} {σ : am_I} {ρ : am_R} {g : am_J} {τ : am_T} {Q : am_Q} {x0 x1 x2 x3 : Value} {a : Nat} (ht : τ.1 a = 11) : AW d 114 30 [x0, x1, x2, x3] (.ref a :: st) σ ρ g τ Q = AW d 114 33 [x0, x1, x2, x3] (va_rf (ρ a 0) :: st) σ ρ g τ Q := aw_gr m114 d114_30 rfl rfl rfl ht
theorem d114_33 : decode cX11_rate 33 = .ok (.getfield 89, 3) := by decide +kernel
theorem s114_33 {d : Nat} {st : List Value} {σ : am_I} {ρ : am_R} {g : am_J} {τ : am_T} {Q : am_Q} {x0 x1 x2 x3 : Value} {a : Nat} (ht : τ.1 a = 3) : AW d 114 33 [x0, x1, x2, x3] (.ref a :: st) σ ρ g τ Q = AW d 114 36 [x0, x1, x2, x3] (va_rf (ρ a 2) :: st) σ ρ g τ Q := aw_gr m114 d114_33 rfl rfl rfl ht
theorem d114_36 : decode cX11_rate 36 = .ok (.iload_n 1, 1) := by decide +kernel
theorem s114_36 {d : Nat} {st : List Value} {σ : am_I} {ρ : am_R} {g : am_J} {τ : am_T} {Q : am_Q} {x0 x2 x3 : Value} {v : Int32} : AW d 114 36 [x0, .int v, x2, x3] (st) σ ρ g τ Q = AW d 114 37 [x0, .int v, x2, x3] (.int v :: st) σ ρ g τ Q := aw_lc m114 d114_36 rfl rfl rfl
theorem d114_37 : decode cX11_rate 37 = .ok (.iload_n 2, 1) := by decide +kernel
theorem s114_37 {d : Nat} {st : List Value} {σ : am_I} {ρ : am_R} {g : am_J} {τ : am_T} {Q : am_Q} {x0 x1 x3 : Value} {v : Int32} : AW d 114 37 [x0, x1, .int v, x3] (st) σ ρ g τ Q = AW d 114 38 [x0, x1, .int v, x3] (.int v :: st) σ ρ g τ Q := aw_lc m114 d114_37 rfl rfl rfl
theorem d114_38 : decode cX11_rate 38 = .ok (.iastore, 1) := by decide +kernel
theorem s114_38 {d : Nat} {st : List Value} {σ : am_I} {ρ : am_R} {g : am_J} {τ : am_T} {Q : am_Q} {x0 x1 x2 x3 : Value} {a : Nat} {j v : Int32} (ht : τ.1 a = 15) (ha : a < am_BG) (hj : am_inb j (τ.2.1 a) = true) : AW d 114 38 [x0, x1, x2, x3] (.int v :: .int j :: .ref a :: st) σ ρ g τ Q = AW d 114 39 [x0, x1, x2, x3] (st) (am_u σ a j.toNatClampNeg v) ρ g τ Q := aw_ias m114 d114_38 rfl ht ha hj
theorem d114_39 : decode cX11_rate 39 = .ok (.iload_n 3, 1) := by decide +kernel
theorem s114_39 {d : Nat} {st : List Value} {σ : am_I} {ρ : am_R} {g : am_J} {τ : am_T} {Q : am_Q} {x0 x1 x2 : Value} {v : Int32} : AW d 114 39 [x0, x1, x2, .int v] (st) σ ρ g τ Q = AW d 114 40 [x0, x1, x2, .int v] (.int v :: st) σ ρ g τ Q := aw_lc m114 d114_39 rfl rfl rfl
theorem d114_40 : decode cX11_rate 40 = .ok (.ireturn, 1) := by decide +kernel
theorem s114_40 {d : Nat} {σ : am_I} {ρ : am_R} {g : am_J} {τ : am_T} {Q : am_Q} {x0 x1 x2 x3 : Value} {v : Int32} : AW d 114 40 [x0, x1, x2, x3] ([.int v]) σ ρ g τ Q = Q (some (.int v)) σ ρ g τ := aw_ri m114 d114_40 rfl
theorem d115_0 : decode cX11_harvest 0 = .ok (.iload_n 1, 1) := by decide +kernel
theorem s115_0 {d : Nat} {st : List Value} {σ : am_I} {ρ : am_R} {g : am_J} {τ : am_T} {Q : am_Q} {x0 x2 x3 : Value} {v : Int32} : AW d 115 0 [x0, .int v, x2, x3] (st) σ ρ g τ Q = AW d 115 1 [x0, .int v, x2, x3] (.int v :: st) σ ρ g τ Q := aw_lc m115 d115_0 rfl rfl rfl
theorem d115_1 : decode cX11_harvest 1 = .ok (.iconst 0, 1) := by decide +kernel
theorem s115_1 {d : Nat} {st : List Value} {σ : am_I} {ρ : am_R} {g : am_J} {τ : am_T} {Q : am_Q} {x0 x1 x2 x3 : Value} : AW d 115 1 [x0, x1, x2, x3] (st) σ ρ g τ Q = AW d 115 2 [x0, x1, x2, x3] (.int 0 :: st) σ ρ g τ Q := aw_lc m115 d115_1 rfl rfl rfl
theorem d115_2 : decode cX11_harvest 2 = .ok (.bipush 11, 2) := by decide +kernel
theorem s115_2 {d : Nat} {st : List Value} {σ : am_I} {ρ : am_R} {g : am_J} {τ : am_T} {Q : am_Q} {x0 x1 x2 x3 : Value} : AW d 115 2 [x0, x1, x2, x3] (st) σ ρ g τ Q = AW d 115 4 [x0, x1, x2, x3] (.int 11 :: st) σ ρ g τ Q := aw_lc m115 d115_2 rfl rfl rfl
theorem d115_4 : decode cX11_harvest 4 = .ok (.invokestatic 74, 3) := by decide +kernel
theorem s115_4 {d : Nat} {st : List Value} {σ : am_I} {ρ : am_R} {g : am_J} {τ : am_T} {Q : am_Q} {x0 x1 x2 x3 : Value} {p0 : Int32} {p1 : Int32} {p2 : Int32} (hs : st.length ≤ 4) : AW (d + 1) 115 4 [x0, x1, x2, x3] (.int p2 :: .int p1 :: .int p0 :: st) σ ρ g τ Q = AW d 100 0 [.int p0, .int p1, .int p2] [] σ ρ g τ (fun r9 σ ρ g τ => AW (d + 1) 115 7 [x0, x1, x2, x3] (r9.toList ++ st) σ ρ g τ Q) := aw_cs m115 d115_4 rfl (by simp only [List.length_cons]; omega) rfl rfl en100 ok100 rfl hs
theorem d115_7 : decode cX11_harvest 7 = .ok (.ifCond .eq 14, 3) := by decide +kernel
theorem s115_7 {d : Nat} {st : List Value} {σ : am_I} {ρ : am_R} {g : am_J} {τ : am_T} {Q : am_Q} {x0 x1 x2 x3 : Value} {v : Int32} : AW d 115 7 [x0, x1, x2, x3] (.int v :: st) σ ρ g τ Q = if v = 0 then AW d 115 21 [x0, x1, x2, x3] (st) σ ρ g τ Q else AW d 115 10 [x0, x1, x2, x3] (st) σ ρ g τ Q := aw_br m115 d115_7 rfl rfl rfl
theorem d115_10 : decode cX11_harvest 10 = .ok (.iload_n 2, 1) := by decide +kernel
theorem s115_10 {d : Nat} {st : List Value} {σ : am_I} {ρ : am_R} {g : am_J} {τ : am_T} {Q : am_Q} {x0 x1 x3 : Value} {v : Int32} : AW d 115 10 [x0, x1, .int v, x3] (st) σ ρ g τ Q = AW d 115 11 [x0, x1, .int v, x3] (.int v :: st) σ ρ g τ Q := aw_lc m115 d115_10 rfl rfl rfl
theorem d115_11 : decode cX11_harvest 11 = .ok (.iconst 0, 1) := by decide +kernel
theorem s115_11 {d : Nat} {st : List Value} {σ : am_I} {ρ : am_R} {g : am_J} {τ : am_T} {Q : am_Q} {x0 x1 x2 x3 : Value} : AW d 115 11 [x0, x1, x2, x3] (st) σ ρ g τ Q = AW d 115 12 [x0, x1, x2, x3] (.int 0 :: st) σ ρ g τ Q := aw_lc m115 d115_11 rfl rfl rfl
theorem d115_12 : decode cX11_harvest 12 = .ok (.sipush 200, 3) := by decide +kernel
theorem s115_12 {d : Nat} {st : List Value} {σ : am_I} {ρ : am_R} {g : am_J} {τ : am_T} {Q : am_Q} {x0 x1 x2 x3 : Value} : AW d 115 12 [x0, x1, x2, x3] (st) σ ρ g τ Q = AW d 115 15 [x0, x1, x2, x3] (.int 200 :: st) σ ρ g τ Q := aw_lc m115 d115_12 rfl rfl rfl
theorem d115_15 : decode cX11_harvest 15 = .ok (.invokestatic 74, 3) := by decide +kernel
theorem s115_15 {d : Nat} {st : List Value} {σ : am_I} {ρ : am_R} {g : am_J} {τ : am_T} {Q : am_Q} {x0 x1 x2 x3 : Value} {p0 : Int32} {p1 : Int32} {p2 : Int32} (hs : st.length ≤ 4) : AW (d + 1) 115 15 [x0, x1, x2, x3] (.int p2 :: .int p1 :: .int p0 :: st) σ ρ g τ Q = AW d 100 0 [.int p0, .int p1, .int p2] [] σ ρ g τ (fun r9 σ ρ g τ => AW (d + 1) 115 18 [x0, x1, x2, x3] (r9.toList ++ st) σ ρ g τ Q) := aw_cs m115 d115_15 rfl (by simp only [List.length_cons]; omega) rfl rfl en100 ok100 rfl hs
theorem d115_18 : decode cX11_harvest 18 = .ok (.ifCond .ne 5, 3) := by decide +kernel
theorem s115_18 {d : Nat} {st : List Value} {σ : am_I} {ρ : am_R} {g : am_J} {τ : am_T} {Q : am_Q} {x0 x1 x2 x3 : Value} {v : Int32} : AW d 115 18 [x0, x1, x2, x3] (.int v :: st) σ ρ g τ Q = if ¬ v = 0 then AW d 115 23 [x0, x1, x2, x3] (st) σ ρ g τ Q else AW d 115 21 [x0, x1, x2, x3] (st) σ ρ g τ Q := aw_br m115 d115_18 rfl rfl rfl
theorem d115_21 : decode cX11_harvest 21 = .ok (.iconst (-1), 1) := by decide +kernel
theorem s115_21 {d : Nat} {st : List Value} {σ : am_I} {ρ : am_R} {g : am_J} {τ : am_T} {Q : am_Q} {x0 x1 x2 x3 : Value} : AW d 115 21 [x0, x1, x2, x3] (st) σ ρ g τ Q = AW d 115 22 [x0, x1, x2, x3] (.int (-1) :: st) σ ρ g τ Q := aw_lc m115 d115_21 rfl rfl rfl
theorem d115_22 : decode cX11_harvest 22 = .ok (.ireturn, 1) := by decide +kernel
theorem s115_22 {d : Nat} {σ : am_I} {ρ : am_R} {g : am_J} {τ : am_T} {Q : am_Q} {x0 x1 x2 x3 : Value} {v : Int32} : AW d 115 22 [x0, x1, x2, x3] ([.int v]) σ ρ g τ Q = Q (some (.int v)) σ ρ g τ := aw_ri m115 d115_22 rfl
theorem d115_23 : decode cX11_harvest 23 = .ok (.aload_n 0, 1) := by decide +kernel
theorem s115_23 {d : Nat} {st : List Value} {σ : am_I} {ρ : am_R} {g : am_J} {τ : am_T} {Q : am_Q} {x1 x2 x3 : Value} {v : Nat} : AW d 115 23 [.ref v, x1, x2, x3] (st) σ ρ g τ Q = AW d 115 24 [.ref v, x1, x2, x3] (.ref v :: st) σ ρ g τ Q := aw_lc m115 d115_23 rfl rfl rfl
theorem d115_24 : decode cX11_harvest 24 = .ok (.getfield 10, 3) := by decide +kernel
theorem s115_24 {d : Nat} {st : List Value} {σ : am_I} {ρ : am_R} {g : am_J} {τ : am_T} {Q : am_Q} {x0 x1 x2 x3 : Value} {a : Nat} (ht : τ.1 a = 11) : AW d 115 24 [x0, x1, x2, x3] (.ref a :: st) σ ρ g τ Q = AW d 115 27 [x0, x1, x2, x3] (va_rf (ρ a 0) :: st) σ ρ g τ Q := aw_gr m115 d115_24 rfl rfl rfl ht
theorem d115_27 : decode cX11_harvest 27 = .ok (.getfield 146, 3) := by decide +kernel
theorem s115_27 {d : Nat} {st : List Value} {σ : am_I} {ρ : am_R} {g : am_J} {τ : am_T} {Q : am_Q} {x0 x1 x2 x3 : Value} {a : Nat} (ht : τ.1 a = 3) : AW d 115 27 [x0, x1, x2, x3] (.ref a :: st) σ ρ g τ Q = AW d 115 30 [x0, x1, x2, x3] (va_rf (ρ a 3) :: st) σ ρ g τ Q := aw_gr m115 d115_27 rfl rfl rfl ht
theorem d115_30 : decode cX11_harvest 30 = .ok (.iload_n 1, 1) := by decide +kernel
theorem s115_30 {d : Nat} {st : List Value} {σ : am_I} {ρ : am_R} {g : am_J} {τ : am_T} {Q : am_Q} {x0 x2 x3 : Value} {v : Int32} : AW d 115 30 [x0, .int v, x2, x3] (st) σ ρ g τ Q = AW d 115 31 [x0, .int v, x2, x3] (.int v :: st) σ ρ g τ Q := aw_lc m115 d115_30 rfl rfl rfl
theorem d115_31 : decode cX11_harvest 31 = .ok (.iaload, 1) := by decide +kernel
theorem s115_31 {d : Nat} {st : List Value} {σ : am_I} {ρ : am_R} {g : am_J} {τ : am_T} {Q : am_Q} {x0 x1 x2 x3 : Value} {a : Nat} {j : Int32} (ht : τ.1 a = 15) (hj : am_inb j (τ.2.1 a) = true) : AW d 115 31 [x0, x1, x2, x3] (.int j :: .ref a :: st) σ ρ g τ Q = AW d 115 32 [x0, x1, x2, x3] (.int (σ a j.toNatClampNeg) :: st) σ ρ g τ Q := aw_ial m115 d115_31 rfl ht hj
theorem d115_32 : decode cX11_harvest 32 = .ok (.istore_n 3, 1) := by decide +kernel
theorem s115_32 {d : Nat} {st : List Value} {σ : am_I} {ρ : am_R} {g : am_J} {τ : am_T} {Q : am_Q} {x0 x1 x3 : Value} {v : Int32} {u : Int32} : AW d 115 32 [x0, x1, .int u, x3] (.int v :: st) σ ρ g τ Q = AW d 115 33 [x0, x1, .int u, .int v] (st) σ ρ g τ Q := aw_lc m115 d115_32 rfl rfl rfl
theorem d115_33 : decode cX11_harvest 33 = .ok (.aload_n 0, 1) := by decide +kernel
theorem s115_33 {d : Nat} {st : List Value} {σ : am_I} {ρ : am_R} {g : am_J} {τ : am_T} {Q : am_Q} {x1 x2 x3 : Value} {v : Nat} : AW d 115 33 [.ref v, x1, x2, x3] (st) σ ρ g τ Q = AW d 115 34 [.ref v, x1, x2, x3] (.ref v :: st) σ ρ g τ Q := aw_lc m115 d115_33 rfl rfl rfl
theorem d115_34 : decode cX11_harvest 34 = .ok (.getfield 10, 3) := by decide +kernel
theorem s115_34 {d : Nat} {st : List Value} {σ : am_I} {ρ : am_R} {g : am_J} {τ : am_T} {Q : am_Q} {x0 x1 x2 x3 : Value} {a : Nat} (ht : τ.1 a = 11) : AW d 115 34 [x0, x1, x2, x3] (.ref a :: st) σ ρ g τ Q = AW d 115 37 [x0, x1, x2, x3] (va_rf (ρ a 0) :: st) σ ρ g τ Q := aw_gr m115 d115_34 rfl rfl rfl ht
theorem d115_37 : decode cX11_harvest 37 = .ok (.getfield 146, 3) := by decide +kernel
theorem s115_37 {d : Nat} {st : List Value} {σ : am_I} {ρ : am_R} {g : am_J} {τ : am_T} {Q : am_Q} {x0 x1 x2 x3 : Value} {a : Nat} (ht : τ.1 a = 3) : AW d 115 37 [x0, x1, x2, x3] (.ref a :: st) σ ρ g τ Q = AW d 115 40 [x0, x1, x2, x3] (va_rf (ρ a 3) :: st) σ ρ g τ Q := aw_gr m115 d115_37 rfl rfl rfl ht
theorem d115_40 : decode cX11_harvest 40 = .ok (.iload_n 1, 1) := by decide +kernel
theorem s115_40 {d : Nat} {st : List Value} {σ : am_I} {ρ : am_R} {g : am_J} {τ : am_T} {Q : am_Q} {x0 x2 x3 : Value} {v : Int32} : AW d 115 40 [x0, .int v, x2, x3] (st) σ ρ g τ Q = AW d 115 41 [x0, .int v, x2, x3] (.int v :: st) σ ρ g τ Q := aw_lc m115 d115_40 rfl rfl rfl
theorem d115_41 : decode cX11_harvest 41 = .ok (.iload_n 2, 1) := by decide +kernel
theorem s115_41 {d : Nat} {st : List Value} {σ : am_I} {ρ : am_R} {g : am_J} {τ : am_T} {Q : am_Q} {x0 x1 x3 : Value} {v : Int32} : AW d 115 41 [x0, x1, .int v, x3] (st) σ ρ g τ Q = AW d 115 42 [x0, x1, .int v, x3] (.int v :: st) σ ρ g τ Q := aw_lc m115 d115_41 rfl rfl rfl
theorem d115_42 : decode cX11_harvest 42 = .ok (.iastore, 1) := by decide +kernel
theorem s115_42 {d : Nat} {st : List Value} {σ : am_I} {ρ : am_R} {g : am_J} {τ : am_T} {Q : am_Q} {x0 x1 x2 x3 : Value} {a : Nat} {j v : Int32} (ht : τ.1 a = 15) (ha : a < am_BG) (hj : am_inb j (τ.2.1 a) = true) : AW d 115 42 [x0, x1, x2, x3] (.int v :: .int j :: .ref a :: st) σ ρ g τ Q = AW d 115 43 [x0, x1, x2, x3] (st) (am_u σ a j.toNatClampNeg v) ρ g τ Q := aw_ias m115 d115_42 rfl ht ha hj
theorem d115_43 : decode cX11_harvest 43 = .ok (.iload_n 3, 1) := by decide +kernel
theorem s115_43 {d : Nat} {st : List Value} {σ : am_I} {ρ : am_R} {g : am_J} {τ : am_T} {Q : am_Q} {x0 x1 x2 : Value} {v : Int32} : AW d 115 43 [x0, x1, x2, .int v] (st) σ ρ g τ Q = AW d 115 44 [x0, x1, x2, .int v] (.int v :: st) σ ρ g τ Q := aw_lc m115 d115_43 rfl rfl rfl
theorem d115_44 : decode cX11_harvest 44 = .ok (.ireturn, 1) := by decide +kernel
theorem s115_44 {d : Nat} {σ : am_I} {ρ : am_R} {g : am_J} {τ : am_T} {Q : am_Q} {x0 x1 x2 x3 : Value} {v : Int32} : AW d 115 44 [x0, x1, x2, x3] ([.int v]) σ ρ g τ Q = Q (some (.int v)) σ ρ g τ := aw_ri m115 d115_44 rfl
theorem d116_0 : decode cX11_gather 0 = .ok (.aload_n 0, 1) := by decide +kernel
theorem s116_0 {d : Nat} {st : List Value} {σ : am_I} {ρ : am_R} {g : am_J} {τ : am_T} {Q : am_Q} {x1 x2 x3 x4 x5 x6 x7 : Value} {v : Nat} : AW d 116 0 [.ref v, x1, x2, x3, x4, x5, x6, x7] (st) σ ρ g τ Q = AW d 116 1 [.ref v, x1, x2, x3, x4, x5, x6, x7] (.ref v :: st) σ ρ g τ Q := aw_lc m116 d116_0 rfl rfl rfl
theorem d116_1 : decode cX11_gather 1 = .ok (.getfield 10, 3) := by decide +kernel
theorem s116_1 {d : Nat} {st : List Value} {σ : am_I} {ρ : am_R} {g : am_J} {τ : am_T} {Q : am_Q} {x0 x1 x2 x3 x4 x5 x6 x7 : Value} {a : Nat} (ht : τ.1 a = 11) : AW d 116 1 [x0, x1, x2, x3, x4, x5, x6, x7] (.ref a :: st) σ ρ g τ Q = AW d 116 4 [x0, x1, x2, x3, x4, x5, x6, x7] (va_rf (ρ a 0) :: st) σ ρ g τ Q := aw_gr m116 d116_1 rfl rfl rfl ht
theorem d116_4 : decode cX11_gather 4 = .ok (.iload_n 1, 1) := by decide +kernel
theorem s116_4 {d : Nat} {st : List Value} {σ : am_I} {ρ : am_R} {g : am_J} {τ : am_T} {Q : am_Q} {x0 x2 x3 x4 x5 x6 x7 : Value} {v : Int32} : AW d 116 4 [x0, .int v, x2, x3, x4, x5, x6, x7] (st) σ ρ g τ Q = AW d 116 5 [x0, .int v, x2, x3, x4, x5, x6, x7] (.int v :: st) σ ρ g τ Q := aw_lc m116 d116_4 rfl rfl rfl
theorem d116_5 : decode cX11_gather 5 = .ok (.invokevirtual 122, 3) := by decide +kernel
theorem s116_5 {d : Nat} {st : List Value} {σ : am_I} {ρ : am_R} {g : am_J} {τ : am_T} {Q : am_Q} {x0 x1 x2 x3 x4 x5 x6 x7 : Value} {p0 : Nat} {p1 : Int32} (ht : τ.1 p0 = 3) (hs : st.length ≤ 4) : AW (d + 1) 116 5 [x0, x1, x2, x3, x4, x5, x6, x7] (.int p1 :: .ref p0 :: st) σ ρ g τ Q = AW d 23 0 [.ref p0, .int p1] [] σ ρ g τ (fun r9 σ ρ g τ => AW (d + 1) 116 8 [x0, x1, x2, x3, x4, x5, x6, x7] (r9.toList ++ st) σ ρ g τ Q) := aw_cv m116 d116_5 rfl m23 rfl rfl (by decide) en23 ok23 rfl ht hs
theorem d116_8 : decode cX11_gather 8 = .ok (.ifCond .eq 27, 3) := by decide +kernel
theorem s116_8 {d : Nat} {st : List Value} {σ : am_I} {ρ : am_R} {g : am_J} {τ : am_T} {Q : am_Q} {x0 x1 x2 x3 x4 x5 x6 x7 : Value} {v : Int32} : AW d 116 8 [x0, x1, x2, x3, x4, x5, x6, x7] (.int v :: st) σ ρ g τ Q = if v = 0 then AW d 116 35 [x0, x1, x2, x3, x4, x5, x6, x7] (st) σ ρ g τ Q else AW d 116 11 [x0, x1, x2, x3, x4, x5, x6, x7] (st) σ ρ g τ Q := aw_br m116 d116_8 rfl rfl rfl
theorem d116_11 : decode cX11_gather 11 = .ok (.iload_n 2, 1) := by decide +kernel
theorem s116_11 {d : Nat} {st : List Value} {σ : am_I} {ρ : am_R} {g : am_J} {τ : am_T} {Q : am_Q} {x0 x1 x3 x4 x5 x6 x7 : Value} {v : Int32} : AW d 116 11 [x0, x1, .int v, x3, x4, x5, x6, x7] (st) σ ρ g τ Q = AW d 116 12 [x0, x1, .int v, x3, x4, x5, x6, x7] (.int v :: st) σ ρ g τ Q := aw_lc m116 d116_11 rfl rfl rfl
theorem d116_12 : decode cX11_gather 12 = .ok (.invokestatic 126, 3) := by decide +kernel
theorem s116_12 {d : Nat} {st : List Value} {σ : am_I} {ρ : am_R} {g : am_J} {τ : am_T} {Q : am_Q} {x0 x1 x2 x3 x4 x5 x6 x7 : Value} {p0 : Int32} (hs : st.length ≤ 4) : AW (d + 1) 116 12 [x0, x1, x2, x3, x4, x5, x6, x7] (.int p0 :: st) σ ρ g τ Q = AW d 102 0 [.int p0] [] σ ρ g τ (fun r9 σ ρ g τ => AW (d + 1) 116 15 [x0, x1, x2, x3, x4, x5, x6, x7] (r9.toList ++ st) σ ρ g τ Q) := aw_cs m116 d116_12 rfl (by simp only [List.length_cons]; omega) rfl rfl en102 ok102 rfl hs
theorem d116_15 : decode cX11_gather 15 = .ok (.ifCond .eq 20, 3) := by decide +kernel
theorem s116_15 {d : Nat} {st : List Value} {σ : am_I} {ρ : am_R} {g : am_J} {τ : am_T} {Q : am_Q} {x0 x1 x2 x3 x4 x5 x6 x7 : Value} {v : Int32} : AW d 116 15 [x0, x1, x2, x3, x4, x5, x6, x7] (.int v :: st) σ ρ g τ Q = if v = 0 then AW d 116 35 [x0, x1, x2, x3, x4, x5, x6, x7] (st) σ ρ g τ Q else AW d 116 18 [x0, x1, x2, x3, x4, x5, x6, x7] (st) σ ρ g τ Q := aw_br m116 d116_15 rfl rfl rfl
theorem d116_18 : decode cX11_gather 18 = .ok (.iload_n 3, 1) := by decide +kernel
theorem s116_18 {d : Nat} {st : List Value} {σ : am_I} {ρ : am_R} {g : am_J} {τ : am_T} {Q : am_Q} {x0 x1 x2 x4 x5 x6 x7 : Value} {v : Int32} : AW d 116 18 [x0, x1, x2, .int v, x4, x5, x6, x7] (st) σ ρ g τ Q = AW d 116 19 [x0, x1, x2, .int v, x4, x5, x6, x7] (.int v :: st) σ ρ g τ Q := aw_lc m116 d116_18 rfl rfl rfl
theorem d116_19 : decode cX11_gather 19 = .ok (.invokestatic 149, 3) := by decide +kernel
theorem s116_19 {d : Nat} {st : List Value} {σ : am_I} {ρ : am_R} {g : am_J} {τ : am_T} {Q : am_Q} {x0 x1 x2 x3 x4 x5 x6 x7 : Value} {p0 : Int32} (hs : st.length ≤ 4) : AW (d + 1) 116 19 [x0, x1, x2, x3, x4, x5, x6, x7] (.int p0 :: st) σ ρ g τ Q = AW d 101 0 [.int p0] [] σ ρ g τ (fun r9 σ ρ g τ => AW (d + 1) 116 22 [x0, x1, x2, x3, x4, x5, x6, x7] (r9.toList ++ st) σ ρ g τ Q) := aw_cs m116 d116_19 rfl (by simp only [List.length_cons]; omega) rfl rfl en101 ok101 rfl hs
theorem d116_22 : decode cX11_gather 22 = .ok (.ifCond .eq 13, 3) := by decide +kernel
theorem s116_22 {d : Nat} {st : List Value} {σ : am_I} {ρ : am_R} {g : am_J} {τ : am_T} {Q : am_Q} {x0 x1 x2 x3 x4 x5 x6 x7 : Value} {v : Int32} : AW d 116 22 [x0, x1, x2, x3, x4, x5, x6, x7] (.int v :: st) σ ρ g τ Q = if v = 0 then AW d 116 35 [x0, x1, x2, x3, x4, x5, x6, x7] (st) σ ρ g τ Q else AW d 116 25 [x0, x1, x2, x3, x4, x5, x6, x7] (st) σ ρ g τ Q := aw_br m116 d116_22 rfl rfl rfl
theorem d116_25 : decode cX11_gather 25 = .ok (.iload 4, 2) := by decide +kernel
theorem s116_25 {d : Nat} {st : List Value} {σ : am_I} {ρ : am_R} {g : am_J} {τ : am_T} {Q : am_Q} {x0 x1 x2 x3 x5 x6 x7 : Value} {v : Int32} : AW d 116 25 [x0, x1, x2, x3, .int v, x5, x6, x7] (st) σ ρ g τ Q = AW d 116 27 [x0, x1, x2, x3, .int v, x5, x6, x7] (.int v :: st) σ ρ g τ Q := aw_lc m116 d116_25 rfl rfl rfl
theorem d116_27 : decode cX11_gather 27 = .ok (.iconst 0, 1) := by decide +kernel
theorem s116_27 {d : Nat} {st : List Value} {σ : am_I} {ρ : am_R} {g : am_J} {τ : am_T} {Q : am_Q} {x0 x1 x2 x3 x4 x5 x6 x7 : Value} : AW d 116 27 [x0, x1, x2, x3, x4, x5, x6, x7] (st) σ ρ g τ Q = AW d 116 28 [x0, x1, x2, x3, x4, x5, x6, x7] (.int 0 :: st) σ ρ g τ Q := aw_lc m116 d116_27 rfl rfl rfl
theorem d116_28 : decode cX11_gather 28 = .ok (.iconst 2, 1) := by decide +kernel
theorem s116_28 {d : Nat} {st : List Value} {σ : am_I} {ρ : am_R} {g : am_J} {τ : am_T} {Q : am_Q} {x0 x1 x2 x3 x4 x5 x6 x7 : Value} : AW d 116 28 [x0, x1, x2, x3, x4, x5, x6, x7] (st) σ ρ g τ Q = AW d 116 29 [x0, x1, x2, x3, x4, x5, x6, x7] (.int 2 :: st) σ ρ g τ Q := aw_lc m116 d116_28 rfl rfl rfl
theorem d116_29 : decode cX11_gather 29 = .ok (.invokestatic 74, 3) := by decide +kernel
theorem s116_29 {d : Nat} {st : List Value} {σ : am_I} {ρ : am_R} {g : am_J} {τ : am_T} {Q : am_Q} {x0 x1 x2 x3 x4 x5 x6 x7 : Value} {p0 : Int32} {p1 : Int32} {p2 : Int32} (hs : st.length ≤ 4) : AW (d + 1) 116 29 [x0, x1, x2, x3, x4, x5, x6, x7] (.int p2 :: .int p1 :: .int p0 :: st) σ ρ g τ Q = AW d 100 0 [.int p0, .int p1, .int p2] [] σ ρ g τ (fun r9 σ ρ g τ => AW (d + 1) 116 32 [x0, x1, x2, x3, x4, x5, x6, x7] (r9.toList ++ st) σ ρ g τ Q) := aw_cs m116 d116_29 rfl (by simp only [List.length_cons]; omega) rfl rfl en100 ok100 rfl hs
theorem d116_32 : decode cX11_gather 32 = .ok (.ifCond .ne 5, 3) := by decide +kernel
theorem s116_32 {d : Nat} {st : List Value} {σ : am_I} {ρ : am_R} {g : am_J} {τ : am_T} {Q : am_Q} {x0 x1 x2 x3 x4 x5 x6 x7 : Value} {v : Int32} : AW d 116 32 [x0, x1, x2, x3, x4, x5, x6, x7] (.int v :: st) σ ρ g τ Q = if ¬ v = 0 then AW d 116 37 [x0, x1, x2, x3, x4, x5, x6, x7] (st) σ ρ g τ Q else AW d 116 35 [x0, x1, x2, x3, x4, x5, x6, x7] (st) σ ρ g τ Q := aw_br m116 d116_32 rfl rfl rfl
theorem d116_35 : decode cX11_gather 35 = .ok (.iconst (-1), 1) := by decide +kernel
theorem s116_35 {d : Nat} {st : List Value} {σ : am_I} {ρ : am_R} {g : am_J} {τ : am_T} {Q : am_Q} {x0 x1 x2 x3 x4 x5 x6 x7 : Value} : AW d 116 35 [x0, x1, x2, x3, x4, x5, x6, x7] (st) σ ρ g τ Q = AW d 116 36 [x0, x1, x2, x3, x4, x5, x6, x7] (.int (-1) :: st) σ ρ g τ Q := aw_lc m116 d116_35 rfl rfl rfl
theorem d116_36 : decode cX11_gather 36 = .ok (.ireturn, 1) := by decide +kernel
theorem s116_36 {d : Nat} {σ : am_I} {ρ : am_R} {g : am_J} {τ : am_T} {Q : am_Q} {x0 x1 x2 x3 x4 x5 x6 x7 : Value} {v : Int32} : AW d 116 36 [x0, x1, x2, x3, x4, x5, x6, x7] ([.int v]) σ ρ g τ Q = Q (some (.int v)) σ ρ g τ := aw_ri m116 d116_36 rfl
theorem d116_37 : decode cX11_gather 37 = .ok (.aload_n 0, 1) := by decide +kernel
theorem s116_37 {d : Nat} {st : List Value} {σ : am_I} {ρ : am_R} {g : am_J} {τ : am_T} {Q : am_Q} {x1 x2 x3 x4 x5 x6 x7 : Value} {v : Nat} : AW d 116 37 [.ref v, x1, x2, x3, x4, x5, x6, x7] (st) σ ρ g τ Q = AW d 116 38 [.ref v, x1, x2, x3, x4, x5, x6, x7] (.ref v :: st) σ ρ g τ Q := aw_lc m116 d116_37 rfl rfl rfl
theorem d116_38 : decode cX11_gather 38 = .ok (.getfield 10, 3) := by decide +kernel
theorem s116_38 {d : Nat} {st : List Value} {σ : am_I} {ρ : am_R} {g : am_J} {τ : am_T} {Q : am_Q} {x0 x1 x2 x3 x4 x5 x6 x7 : Value} {a : Nat} (ht : τ.1 a = 11) : AW d 116 38 [x0, x1, x2, x3, x4, x5, x6, x7] (.ref a :: st) σ ρ g τ Q = AW d 116 41 [x0, x1, x2, x3, x4, x5, x6, x7] (va_rf (ρ a 0) :: st) σ ρ g τ Q := aw_gr m116 d116_38 rfl rfl rfl ht
theorem d116_41 : decode cX11_gather 41 = .ok (.getfield 113, 3) := by decide +kernel
theorem s116_41 {d : Nat} {st : List Value} {σ : am_I} {ρ : am_R} {g : am_J} {τ : am_T} {Q : am_Q} {x0 x1 x2 x3 x4 x5 x6 x7 : Value} {a : Nat} (ht : τ.1 a = 3) : AW d 116 41 [x0, x1, x2, x3, x4, x5, x6, x7] (.ref a :: st) σ ρ g τ Q = AW d 116 44 [x0, x1, x2, x3, x4, x5, x6, x7] (va_rf (ρ a 5) :: st) σ ρ g τ Q := aw_gr m116 d116_41 rfl rfl rfl ht
theorem d116_44 : decode cX11_gather 44 = .ok (.iload_n 1, 1) := by decide +kernel
theorem s116_44 {d : Nat} {st : List Value} {σ : am_I} {ρ : am_R} {g : am_J} {τ : am_T} {Q : am_Q} {x0 x2 x3 x4 x5 x6 x7 : Value} {v : Int32} : AW d 116 44 [x0, .int v, x2, x3, x4, x5, x6, x7] (st) σ ρ g τ Q = AW d 116 45 [x0, .int v, x2, x3, x4, x5, x6, x7] (.int v :: st) σ ρ g τ Q := aw_lc m116 d116_44 rfl rfl rfl
theorem d116_45 : decode cX11_gather 45 = .ok (.aaload, 1) := by decide +kernel
theorem s116_45 {d : Nat} {st : List Value} {σ : am_I} {ρ : am_R} {g : am_J} {τ : am_T} {Q : am_Q} {x0 x1 x2 x3 x4 x5 x6 x7 : Value} {a : Nat} {j : Int32} (ht : 18 ≤ τ.1 a ∧ τ.1 a ≤ 22) (hj : am_inb j (τ.2.1 a) = true) : AW d 116 45 [x0, x1, x2, x3, x4, x5, x6, x7] (.int j :: .ref a :: st) σ ρ g τ Q = AW d 116 46 [x0, x1, x2, x3, x4, x5, x6, x7] (va_rf (ρ a j.toNatClampNeg) :: st) σ ρ g τ Q := aw_aal m116 d116_45 rfl ht hj
theorem d116_46 : decode cX11_gather 46 = .ok (.astore 5, 2) := by decide +kernel
theorem s116_46 {d : Nat} {st : List Value} {σ : am_I} {ρ : am_R} {g : am_J} {τ : am_T} {Q : am_Q} {x0 x1 x2 x3 x5 x6 x7 : Value} {v : Nat} {u : Int32} : AW d 116 46 [x0, x1, x2, x3, .int u, x5, x6, x7] (.ref v :: st) σ ρ g τ Q = AW d 116 48 [x0, x1, x2, x3, .int u, .ref v, x6, x7] (st) σ ρ g τ Q := aw_lc m116 d116_46 rfl rfl rfl
theorem d116_48 : decode cX11_gather 48 = .ok (.aload_n 0, 1) := by decide +kernel
theorem s116_48 {d : Nat} {st : List Value} {σ : am_I} {ρ : am_R} {g : am_J} {τ : am_T} {Q : am_Q} {x1 x2 x3 x4 x5 x6 x7 : Value} {v : Nat} : AW d 116 48 [.ref v, x1, x2, x3, x4, x5, x6, x7] (st) σ ρ g τ Q = AW d 116 49 [.ref v, x1, x2, x3, x4, x5, x6, x7] (.ref v :: st) σ ρ g τ Q := aw_lc m116 d116_48 rfl rfl rfl
theorem d116_49 : decode cX11_gather 49 = .ok (.getfield 10, 3) := by decide +kernel
theorem s116_49 {d : Nat} {st : List Value} {σ : am_I} {ρ : am_R} {g : am_J} {τ : am_T} {Q : am_Q} {x0 x1 x2 x3 x4 x5 x6 x7 : Value} {a : Nat} (ht : τ.1 a = 11) : AW d 116 49 [x0, x1, x2, x3, x4, x5, x6, x7] (.ref a :: st) σ ρ g τ Q = AW d 116 52 [x0, x1, x2, x3, x4, x5, x6, x7] (va_rf (ρ a 0) :: st) σ ρ g τ Q := aw_gr m116 d116_49 rfl rfl rfl ht
theorem d116_52 : decode cX11_gather 52 = .ok (.aload 5, 2) := by decide +kernel
theorem s116_52 {d : Nat} {st : List Value} {σ : am_I} {ρ : am_R} {g : am_J} {τ : am_T} {Q : am_Q} {x0 x1 x2 x3 x4 x6 x7 : Value} {v : Nat} : AW d 116 52 [x0, x1, x2, x3, x4, .ref v, x6, x7] (st) σ ρ g τ Q = AW d 116 54 [x0, x1, x2, x3, x4, .ref v, x6, x7] (.ref v :: st) σ ρ g τ Q := aw_lc m116 d116_52 rfl rfl rfl
theorem d116_54 : decode cX11_gather 54 = .ok (.iload_n 2, 1) := by decide +kernel
theorem s116_54 {d : Nat} {st : List Value} {σ : am_I} {ρ : am_R} {g : am_J} {τ : am_T} {Q : am_Q} {x0 x1 x3 x4 x5 x6 x7 : Value} {v : Int32} : AW d 116 54 [x0, x1, .int v, x3, x4, x5, x6, x7] (st) σ ρ g τ Q = AW d 116 55 [x0, x1, .int v, x3, x4, x5, x6, x7] (.int v :: st) σ ρ g τ Q := aw_lc m116 d116_54 rfl rfl rfl
theorem d116_55 : decode cX11_gather 55 = .ok (.iload_n 3, 1) := by decide +kernel
theorem s116_55 {d : Nat} {st : List Value} {σ : am_I} {ρ : am_R} {g : am_J} {τ : am_T} {Q : am_Q} {x0 x1 x2 x4 x5 x6 x7 : Value} {v : Int32} : AW d 116 55 [x0, x1, x2, .int v, x4, x5, x6, x7] (st) σ ρ g τ Q = AW d 116 56 [x0, x1, x2, .int v, x4, x5, x6, x7] (.int v :: st) σ ρ g τ Q := aw_lc m116 d116_55 rfl rfl rfl
theorem d116_56 : decode cX11_gather 56 = .ok (.aload_n 0, 1) := by decide +kernel
theorem s116_56 {d : Nat} {st : List Value} {σ : am_I} {ρ : am_R} {g : am_J} {τ : am_T} {Q : am_Q} {x1 x2 x3 x4 x5 x6 x7 : Value} {v : Nat} : AW d 116 56 [.ref v, x1, x2, x3, x4, x5, x6, x7] (st) σ ρ g τ Q = AW d 116 57 [.ref v, x1, x2, x3, x4, x5, x6, x7] (.ref v :: st) σ ρ g τ Q := aw_lc m116 d116_56 rfl rfl rfl
theorem d116_57 : decode cX11_gather 57 = .ok (.getfield 10, 3) := by decide +kernel
theorem s116_57 {d : Nat} {st : List Value} {σ : am_I} {ρ : am_R} {g : am_J} {τ : am_T} {Q : am_Q} {x0 x1 x2 x3 x4 x5 x6 x7 : Value} {a : Nat} (ht : τ.1 a = 11) : AW d 116 57 [x0, x1, x2, x3, x4, x5, x6, x7] (.ref a :: st) σ ρ g τ Q = AW d 116 60 [x0, x1, x2, x3, x4, x5, x6, x7] (va_rf (ρ a 0) :: st) σ ρ g τ Q := aw_gr m116 d116_57 rfl rfl rfl ht
theorem d116_60 : decode cX11_gather 60 = .ok (.getfield 89, 3) := by decide +kernel
theorem s116_60 {d : Nat} {st : List Value} {σ : am_I} {ρ : am_R} {g : am_J} {τ : am_T} {Q : am_Q} {x0 x1 x2 x3 x4 x5 x6 x7 : Value} {a : Nat} (ht : τ.1 a = 3) : AW d 116 60 [x0, x1, x2, x3, x4, x5, x6, x7] (.ref a :: st) σ ρ g τ Q = AW d 116 63 [x0, x1, x2, x3, x4, x5, x6, x7] (va_rf (ρ a 2) :: st) σ ρ g τ Q := aw_gr m116 d116_60 rfl rfl rfl ht
theorem d116_63 : decode cX11_gather 63 = .ok (.iload_n 2, 1) := by decide +kernel
theorem s116_63 {d : Nat} {st : List Value} {σ : am_I} {ρ : am_R} {g : am_J} {τ : am_T} {Q : am_Q} {x0 x1 x3 x4 x5 x6 x7 : Value} {v : Int32} : AW d 116 63 [x0, x1, .int v, x3, x4, x5, x6, x7] (st) σ ρ g τ Q = AW d 116 64 [x0, x1, .int v, x3, x4, x5, x6, x7] (.int v :: st) σ ρ g τ Q := aw_lc m116 d116_63 rfl rfl rfl
theorem d116_64 : decode cX11_gather 64 = .ok (.iaload, 1) := by decide +kernel
theorem s116_64 {d : Nat} {st : List Value} {σ : am_I} {ρ : am_R} {g : am_J} {τ : am_T} {Q : am_Q} {x0 x1 x2 x3 x4 x5 x6 x7 : Value} {a : Nat} {j : Int32} (ht : τ.1 a = 15) (hj : am_inb j (τ.2.1 a) = true) : AW d 116 64 [x0, x1, x2, x3, x4, x5, x6, x7] (.int j :: .ref a :: st) σ ρ g τ Q = AW d 116 65 [x0, x1, x2, x3, x4, x5, x6, x7] (.int (σ a j.toNatClampNeg) :: st) σ ρ g τ Q := aw_ial m116 d116_64 rfl ht hj
theorem d116_65 : decode cX11_gather 65 = .ok (.invokevirtual 152, 3) := by decide +kernel
theorem s116_65 {d : Nat} {st : List Value} {σ : am_I} {ρ : am_R} {g : am_J} {τ : am_T} {Q : am_Q} {x0 x1 x2 x3 x4 x5 x6 x7 : Value} {p0 : Nat} {p1 : Nat} {p2 : Int32} {p3 : Int32} {p4 : Int32} (ht : τ.1 p0 = 3) (hs : st.length ≤ 4) : AW (d + 1) 116 65 [x0, x1, x2, x3, x4, x5, x6, x7] (.int p4 :: .int p3 :: .int p2 :: .ref p1 :: .ref p0 :: st) σ ρ g τ Q = AW d 27 0 [.ref p0, .ref p1, .int p2, .int p3, .int p4] [] σ ρ g τ (fun r9 σ ρ g τ => AW (d + 1) 116 68 [x0, x1, x2, x3, x4, x5, x6, x7] (r9.toList ++ st) σ ρ g τ Q) := aw_cv m116 d116_65 rfl m27 rfl rfl (by decide) en27 ok27 rfl ht hs
theorem d116_68 : decode cX11_gather 68 = .ok (.istore 6, 2) := by decide +kernel
theorem s116_68r {d : Nat} {st : List Value} {σ : am_I} {ρ : am_R} {g : am_J} {τ : am_T} {Q : am_Q} {x0 x1 x2 x3 x4 x6 x7 : Value} {v : Int32} {u : Nat} : AW d 116 68 [x0, x1, x2, x3, x4, .ref u, x6, x7] (.int v :: st) σ ρ g τ Q = AW d 116 70 [x0, x1, x2, x3, x4, .ref u, .int v, x7] (st) σ ρ g τ Q := aw_lc m116 d116_68 rfl rfl rfl
theorem d116_70 : decode cX11_gather 70 = .ok (.iload 6, 2) := by decide +kernel
theorem s116_70 {d : Nat} {st : List Value} {σ : am_I} {ρ : am_R} {g : am_J} {τ : am_T} {Q : am_Q} {x0 x1 x2 x3 x4 x5 x7 : Value} {v : Int32} : AW d 116 70 [x0, x1, x2, x3, x4, x5, .int v, x7] (st) σ ρ g τ Q = AW d 116 72 [x0, x1, x2, x3, x4, x5, .int v, x7] (.int v :: st) σ ρ g τ Q := aw_lc m116 d116_70 rfl rfl rfl
theorem d116_72 : decode cX11_gather 72 = .ok (.aload_n 0, 1) := by decide +kernel
theorem s116_72 {d : Nat} {st : List Value} {σ : am_I} {ρ : am_R} {g : am_J} {τ : am_T} {Q : am_Q} {x1 x2 x3 x4 x5 x6 x7 : Value} {v : Nat} : AW d 116 72 [.ref v, x1, x2, x3, x4, x5, x6, x7] (st) σ ρ g τ Q = AW d 116 73 [.ref v, x1, x2, x3, x4, x5, x6, x7] (.ref v :: st) σ ρ g τ Q := aw_lc m116 d116_72 rfl rfl rfl
theorem d116_73 : decode cX11_gather 73 = .ok (.getfield 10, 3) := by decide +kernel
theorem s116_73 {d : Nat} {st : List Value} {σ : am_I} {ρ : am_R} {g : am_J} {τ : am_T} {Q : am_Q} {x0 x1 x2 x3 x4 x5 x6 x7 : Value} {a : Nat} (ht : τ.1 a = 11) : AW d 116 73 [x0, x1, x2, x3, x4, x5, x6, x7] (.ref a :: st) σ ρ g τ Q = AW d 116 76 [x0, x1, x2, x3, x4, x5, x6, x7] (va_rf (ρ a 0) :: st) σ ρ g τ Q := aw_gr m116 d116_73 rfl rfl rfl ht
theorem d116_76 : decode cX11_gather 76 = .ok (.getfield 89, 3) := by decide +kernel
theorem s116_76 {d : Nat} {st : List Value} {σ : am_I} {ρ : am_R} {g : am_J} {τ : am_T} {Q : am_Q} {x0 x1 x2 x3 x4 x5 x6 x7 : Value} {a : Nat} (ht : τ.1 a = 3) : AW d 116 76 [x0, x1, x2, x3, x4, x5, x6, x7] (.ref a :: st) σ ρ g τ Q = AW d 116 79 [x0, x1, x2, x3, x4, x5, x6, x7] (va_rf (ρ a 2) :: st) σ ρ g τ Q := aw_gr m116 d116_76 rfl rfl rfl ht
theorem d116_79 : decode cX11_gather 79 = .ok (.iload_n 2, 1) := by decide +kernel
theorem s116_79 {d : Nat} {st : List Value} {σ : am_I} {ρ : am_R} {g : am_J} {τ : am_T} {Q : am_Q} {x0 x1 x3 x4 x5 x6 x7 : Value} {v : Int32} : AW d 116 79 [x0, x1, .int v, x3, x4, x5, x6, x7] (st) σ ρ g τ Q = AW d 116 80 [x0, x1, .int v, x3, x4, x5, x6, x7] (.int v :: st) σ ρ g τ Q := aw_lc m116 d116_79 rfl rfl rfl
theorem d116_80 : decode cX11_gather 80 = .ok (.iaload, 1) := by decide +kernel
theorem s116_80 {d : Nat} {st : List Value} {σ : am_I} {ρ : am_R} {g : am_J} {τ : am_T} {Q : am_Q} {x0 x1 x2 x3 x4 x5 x6 x7 : Value} {a : Nat} {j : Int32} (ht : τ.1 a = 15) (hj : am_inb j (τ.2.1 a) = true) : AW d 116 80 [x0, x1, x2, x3, x4, x5, x6, x7] (.int j :: .ref a :: st) σ ρ g τ Q = AW d 116 81 [x0, x1, x2, x3, x4, x5, x6, x7] (.int (σ a j.toNatClampNeg) :: st) σ ρ g τ Q := aw_ial m116 d116_80 rfl ht hj
theorem d116_81 : decode cX11_gather 81 = .ok (.aload 5, 2) := by decide +kernel
theorem s116_81 {d : Nat} {st : List Value} {σ : am_I} {ρ : am_R} {g : am_J} {τ : am_T} {Q : am_Q} {x0 x1 x2 x3 x4 x6 x7 : Value} {v : Nat} : AW d 116 81 [x0, x1, x2, x3, x4, .ref v, x6, x7] (st) σ ρ g τ Q = AW d 116 83 [x0, x1, x2, x3, x4, .ref v, x6, x7] (.ref v :: st) σ ρ g τ Q := aw_lc m116 d116_81 rfl rfl rfl
theorem d116_83 : decode cX11_gather 83 = .ok (.getfield 143, 3) := by decide +kernel
theorem s116_83 {d : Nat} {st : List Value} {σ : am_I} {ρ : am_R} {g : am_J} {τ : am_T} {Q : am_Q} {x0 x1 x2 x3 x4 x5 x6 x7 : Value} {a : Nat} (ht : τ.1 a = 7) : AW d 116 83 [x0, x1, x2, x3, x4, x5, x6, x7] (.ref a :: st) σ ρ g τ Q = AW d 116 86 [x0, x1, x2, x3, x4, x5, x6, x7] (.int (σ a 3) :: st) σ ρ g τ Q := aw_gi m116 d116_83 rfl rfl rfl ht
theorem d116_86 : decode cX11_gather 86 = .ok (.invokestatic 156, 3) := by decide +kernel
theorem s116_86 {d : Nat} {st : List Value} {σ : am_I} {ρ : am_R} {g : am_J} {τ : am_T} {Q : am_Q} {x0 x1 x2 x3 x4 x5 x6 x7 : Value} {p0 : Int32} {p1 : Int32} {p2 : Int32} (hs : st.length ≤ 4) : AW (d + 1) 116 86 [x0, x1, x2, x3, x4, x5, x6, x7] (.int p2 :: .int p1 :: .int p0 :: st) σ ρ g τ Q = AW d 28 0 [.int p0, .int p1, .int p2] [] σ ρ g τ (fun r9 σ ρ g τ => AW (d + 1) 116 89 [x0, x1, x2, x3, x4, x5, x6, x7] (r9.toList ++ st) σ ρ g τ Q) := aw_cs m116 d116_86 rfl (by simp only [List.length_cons]; omega) rfl rfl en28 ok28 rfl hs
theorem d116_89 : decode cX11_gather 89 = .ok (.istore 7, 2) := by decide +kernel
theorem s116_89 {d : Nat} {st : List Value} {σ : am_I} {ρ : am_R} {g : am_J} {τ : am_T} {Q : am_Q} {x0 x1 x2 x3 x4 x5 x7 : Value} {v : Int32} {u : Int32} : AW d 116 89 [x0, x1, x2, x3, x4, x5, .int u, x7] (.int v :: st) σ ρ g τ Q = AW d 116 91 [x0, x1, x2, x3, x4, x5, .int u, .int v] (st) σ ρ g τ Q := aw_lc m116 d116_89 rfl rfl rfl
theorem d116_91 : decode cX11_gather 91 = .ok (.iload 4, 2) := by decide +kernel
theorem s116_91 {d : Nat} {st : List Value} {σ : am_I} {ρ : am_R} {g : am_J} {τ : am_T} {Q : am_Q} {x0 x1 x2 x3 x5 x6 x7 : Value} {v : Int32} : AW d 116 91 [x0, x1, x2, x3, .int v, x5, x6, x7] (st) σ ρ g τ Q = AW d 116 93 [x0, x1, x2, x3, .int v, x5, x6, x7] (.int v :: st) σ ρ g τ Q := aw_lc m116 d116_91 rfl rfl rfl
theorem d116_93 : decode cX11_gather 93 = .ok (.ifCond .ne 6, 3) := by decide +kernel
theorem s116_93 {d : Nat} {st : List Value} {σ : am_I} {ρ : am_R} {g : am_J} {τ : am_T} {Q : am_Q} {x0 x1 x2 x3 x4 x5 x6 x7 : Value} {v : Int32} : AW d 116 93 [x0, x1, x2, x3, x4, x5, x6, x7] (.int v :: st) σ ρ g τ Q = if ¬ v = 0 then AW d 116 99 [x0, x1, x2, x3, x4, x5, x6, x7] (st) σ ρ g τ Q else AW d 116 96 [x0, x1, x2, x3, x4, x5, x6, x7] (st) σ ρ g τ Q := aw_br m116 d116_93 rfl rfl rfl
theorem d116_96 : decode cX11_gather 96 = .ok (.iload 6, 2) := by decide +kernel
theorem s116_96 {d : Nat} {st : List Value} {σ : am_I} {ρ : am_R} {g : am_J} {τ : am_T} {Q : am_Q} {x0 x1 x2 x3 x4 x5 x7 : Value} {v : Int32} : AW d 116 96 [x0, x1, x2, x3, x4, x5, .int v, x7] (st) σ ρ g τ Q = AW d 116 98 [x0, x1, x2, x3, x4, x5, .int v, x7] (.int v :: st) σ ρ g τ Q := aw_lc m116 d116_96 rfl rfl rfl
theorem d116_98 : decode cX11_gather 98 = .ok (.ireturn, 1) := by decide +kernel
theorem s116_98 {d : Nat} {σ : am_I} {ρ : am_R} {g : am_J} {τ : am_T} {Q : am_Q} {x0 x1 x2 x3 x4 x5 x6 x7 : Value} {v : Int32} : AW d 116 98 [x0, x1, x2, x3, x4, x5, x6, x7] ([.int v]) σ ρ g τ Q = Q (some (.int v)) σ ρ g τ := aw_ri m116 d116_98 rfl
theorem d116_99 : decode cX11_gather 99 = .ok (.iload 4, 2) := by decide +kernel
theorem s116_99 {d : Nat} {st : List Value} {σ : am_I} {ρ : am_R} {g : am_J} {τ : am_T} {Q : am_Q} {x0 x1 x2 x3 x5 x6 x7 : Value} {v : Int32} : AW d 116 99 [x0, x1, x2, x3, .int v, x5, x6, x7] (st) σ ρ g τ Q = AW d 116 101 [x0, x1, x2, x3, .int v, x5, x6, x7] (.int v :: st) σ ρ g τ Q := aw_lc m116 d116_99 rfl rfl rfl
theorem d116_101 : decode cX11_gather 101 = .ok (.iconst 1, 1) := by decide +kernel
theorem s116_101 {d : Nat} {st : List Value} {σ : am_I} {ρ : am_R} {g : am_J} {τ : am_T} {Q : am_Q} {x0 x1 x2 x3 x4 x5 x6 x7 : Value} : AW d 116 101 [x0, x1, x2, x3, x4, x5, x6, x7] (st) σ ρ g τ Q = AW d 116 102 [x0, x1, x2, x3, x4, x5, x6, x7] (.int 1 :: st) σ ρ g τ Q := aw_lc m116 d116_101 rfl rfl rfl
theorem d116_102 : decode cX11_gather 102 = .ok (.if_icmp .ne 8, 3) := by decide +kernel
theorem s116_102 {d : Nat} {st : List Value} {σ : am_I} {ρ : am_R} {g : am_J} {τ : am_T} {Q : am_Q} {x0 x1 x2 x3 x4 x5 x6 x7 : Value} {v w : Int32} : AW d 116 102 [x0, x1, x2, x3, x4, x5, x6, x7] (.int w :: .int v :: st) σ ρ g τ Q = if ¬ v = w then AW d 116 110 [x0, x1, x2, x3, x4, x5, x6, x7] (st) σ ρ g τ Q else AW d 116 105 [x0, x1, x2, x3, x4, x5, x6, x7] (st) σ ρ g τ Q := aw_br m116 d116_102 rfl rfl rfl
theorem d116_105 : decode cX11_gather 105 = .ok (.iload 7, 2) := by decide +kernel
theorem s116_105 {d : Nat} {st : List Value} {σ : am_I} {ρ : am_R} {g : am_J} {τ : am_T} {Q : am_Q} {x0 x1 x2 x3 x4 x5 x6 : Value} {v : Int32} : AW d 116 105 [x0, x1, x2, x3, x4, x5, x6, .int v] (st) σ ρ g τ Q = AW d 116 107 [x0, x1, x2, x3, x4, x5, x6, .int v] (.int v :: st) σ ρ g τ Q := aw_lc m116 d116_105 rfl rfl rfl
theorem d116_107 : decode cX11_gather 107 = .ok (.goto 8, 3) := by decide +kernel
theorem s116_107 {d : Nat} {st : List Value} {σ : am_I} {ρ : am_R} {g : am_J} {τ : am_T} {Q : am_Q} {x0 x1 x2 x3 x4 x5 x6 x7 : Value} : AW d 116 107 [x0, x1, x2, x3, x4, x5, x6, x7] (st) σ ρ g τ Q = AW d 116 115 [x0, x1, x2, x3, x4, x5, x6, x7] (st) σ ρ g τ Q := aw_lc m116 d116_107 rfl rfl rfl
theorem d116_110 : decode cX11_gather 110 = .ok (.iload 6, 2) := by decide +kernel
theorem s116_110 {d : Nat} {st : List Value} {σ : am_I} {ρ : am_R} {g : am_J} {τ : am_T} {Q : am_Q} {x0 x1 x2 x3 x4 x5 x7 : Value} {v : Int32} : AW d 116 110 [x0, x1, x2, x3, x4, x5, .int v, x7] (st) σ ρ g τ Q = AW d 116 112 [x0, x1, x2, x3, x4, x5, .int v, x7] (.int v :: st) σ ρ g τ Q := aw_lc m116 d116_110 rfl rfl rfl
theorem d116_112 : decode cX11_gather 112 = .ok (.iload 7, 2) := by decide +kernel
theorem s116_112 {d : Nat} {st : List Value} {σ : am_I} {ρ : am_R} {g : am_J} {τ : am_T} {Q : am_Q} {x0 x1 x2 x3 x4 x5 x6 : Value} {v : Int32} : AW d 116 112 [x0, x1, x2, x3, x4, x5, x6, .int v] (st) σ ρ g τ Q = AW d 116 114 [x0, x1, x2, x3, x4, x5, x6, .int v] (.int v :: st) σ ρ g τ Q := aw_lc m116 d116_112 rfl rfl rfl
theorem d116_114 : decode cX11_gather 114 = .ok (.isub, 1) := by decide +kernel
theorem s116_114 {d : Nat} {st : List Value} {σ : am_I} {ρ : am_R} {g : am_J} {τ : am_T} {Q : am_Q} {x0 x1 x2 x3 x4 x5 x6 x7 : Value} {v w : Int32} : AW d 116 114 [x0, x1, x2, x3, x4, x5, x6, x7] (.int w :: .int v :: st) σ ρ g τ Q = AW d 116 115 [x0, x1, x2, x3, x4, x5, x6, x7] (.int (v - w) :: st) σ ρ g τ Q := aw_lc m116 d116_114 rfl rfl rfl
theorem d116_115 : decode cX11_gather 115 = .ok (.ireturn, 1) := by decide +kernel
theorem s116_115 {d : Nat} {σ : am_I} {ρ : am_R} {g : am_J} {τ : am_T} {Q : am_Q} {x0 x1 x2 x3 x4 x5 x6 x7 : Value} {v : Int32} : AW d 116 115 [x0, x1, x2, x3, x4, x5, x6, x7] ([.int v]) σ ρ g τ Q = Q (some (.int v)) σ ρ g τ := aw_ri m116 d116_115 rfl
theorem d117_0 : decode cX11_bestRate 0 = .ok (.iload_n 1, 1) := by decide +kernel
theorem s117_0 {d : Nat} {st : List Value} {σ : am_I} {ρ : am_R} {g : am_J} {τ : am_T} {Q : am_Q} {x0 x2 x3 x4 x5 x6 x7 : Value} {v : Int32} : AW d 117 0 [x0, .int v, x2, x3, x4, x5, x6, x7] (st) σ ρ g τ Q = AW d 117 1 [x0, .int v, x2, x3, x4, x5, x6, x7] (.int v :: st) σ ρ g τ Q := aw_lc m117 d117_0 rfl rfl rfl
theorem d117_1 : decode cX11_bestRate 1 = .ok (.invokestatic 126, 3) := by decide +kernel
theorem s117_1 {d : Nat} {st : List Value} {σ : am_I} {ρ : am_R} {g : am_J} {τ : am_T} {Q : am_Q} {x0 x1 x2 x3 x4 x5 x6 x7 : Value} {p0 : Int32} (hs : st.length ≤ 4) : AW (d + 1) 117 1 [x0, x1, x2, x3, x4, x5, x6, x7] (.int p0 :: st) σ ρ g τ Q = AW d 102 0 [.int p0] [] σ ρ g τ (fun r9 σ ρ g τ => AW (d + 1) 117 4 [x0, x1, x2, x3, x4, x5, x6, x7] (r9.toList ++ st) σ ρ g τ Q) := aw_cs m117 d117_1 rfl (by simp only [List.length_cons]; omega) rfl rfl en102 ok102 rfl hs
theorem d117_4 : decode cX11_bestRate 4 = .ok (.ifCond .eq 19, 3) := by decide +kernel
theorem s117_4 {d : Nat} {st : List Value} {σ : am_I} {ρ : am_R} {g : am_J} {τ : am_T} {Q : am_Q} {x0 x1 x2 x3 x4 x5 x6 x7 : Value} {v : Int32} : AW d 117 4 [x0, x1, x2, x3, x4, x5, x6, x7] (.int v :: st) σ ρ g τ Q = if v = 0 then AW d 117 23 [x0, x1, x2, x3, x4, x5, x6, x7] (st) σ ρ g τ Q else AW d 117 7 [x0, x1, x2, x3, x4, x5, x6, x7] (st) σ ρ g τ Q := aw_br m117 d117_4 rfl rfl rfl
theorem d117_7 : decode cX11_bestRate 7 = .ok (.iload_n 2, 1) := by decide +kernel
theorem s117_7 {d : Nat} {st : List Value} {σ : am_I} {ρ : am_R} {g : am_J} {τ : am_T} {Q : am_Q} {x0 x1 x3 x4 x5 x6 x7 : Value} {v : Int32} : AW d 117 7 [x0, x1, .int v, x3, x4, x5, x6, x7] (st) σ ρ g τ Q = AW d 117 8 [x0, x1, .int v, x3, x4, x5, x6, x7] (.int v :: st) σ ρ g τ Q := aw_lc m117 d117_7 rfl rfl rfl
theorem d117_8 : decode cX11_bestRate 8 = .ok (.invokestatic 149, 3) := by decide +kernel
theorem s117_8 {d : Nat} {st : List Value} {σ : am_I} {ρ : am_R} {g : am_J} {τ : am_T} {Q : am_Q} {x0 x1 x2 x3 x4 x5 x6 x7 : Value} {p0 : Int32} (hs : st.length ≤ 4) : AW (d + 1) 117 8 [x0, x1, x2, x3, x4, x5, x6, x7] (.int p0 :: st) σ ρ g τ Q = AW d 101 0 [.int p0] [] σ ρ g τ (fun r9 σ ρ g τ => AW (d + 1) 117 11 [x0, x1, x2, x3, x4, x5, x6, x7] (r9.toList ++ st) σ ρ g τ Q) := aw_cs m117 d117_8 rfl (by simp only [List.length_cons]; omega) rfl rfl en101 ok101 rfl hs
theorem d117_11 : decode cX11_bestRate 11 = .ok (.ifCond .eq 12, 3) := by decide +kernel
theorem s117_11 {d : Nat} {st : List Value} {σ : am_I} {ρ : am_R} {g : am_J} {τ : am_T} {Q : am_Q} {x0 x1 x2 x3 x4 x5 x6 x7 : Value} {v : Int32} : AW d 117 11 [x0, x1, x2, x3, x4, x5, x6, x7] (.int v :: st) σ ρ g τ Q = if v = 0 then AW d 117 23 [x0, x1, x2, x3, x4, x5, x6, x7] (st) σ ρ g τ Q else AW d 117 14 [x0, x1, x2, x3, x4, x5, x6, x7] (st) σ ρ g τ Q := aw_br m117 d117_11 rfl rfl rfl
theorem d117_14 : decode cX11_bestRate 14 = .ok (.iload_n 3, 1) := by decide +kernel
theorem s117_14 {d : Nat} {st : List Value} {σ : am_I} {ρ : am_R} {g : am_J} {τ : am_T} {Q : am_Q} {x0 x1 x2 x4 x5 x6 x7 : Value} {v : Int32} : AW d 117 14 [x0, x1, x2, .int v, x4, x5, x6, x7] (st) σ ρ g τ Q = AW d 117 15 [x0, x1, x2, .int v, x4, x5, x6, x7] (.int v :: st) σ ρ g τ Q := aw_lc m117 d117_14 rfl rfl rfl
theorem d117_15 : decode cX11_bestRate 15 = .ok (.iconst 0, 1) := by decide +kernel
theorem s117_15 {d : Nat} {st : List Value} {σ : am_I} {ρ : am_R} {g : am_J} {τ : am_T} {Q : am_Q} {x0 x1 x2 x3 x4 x5 x6 x7 : Value} : AW d 117 15 [x0, x1, x2, x3, x4, x5, x6, x7] (st) σ ρ g τ Q = AW d 117 16 [x0, x1, x2, x3, x4, x5, x6, x7] (.int 0 :: st) σ ρ g τ Q := aw_lc m117 d117_15 rfl rfl rfl
theorem d117_16 : decode cX11_bestRate 16 = .ok (.iconst 1, 1) := by decide +kernel
theorem s117_16 {d : Nat} {st : List Value} {σ : am_I} {ρ : am_R} {g : am_J} {τ : am_T} {Q : am_Q} {x0 x1 x2 x3 x4 x5 x6 x7 : Value} : AW d 117 16 [x0, x1, x2, x3, x4, x5, x6, x7] (st) σ ρ g τ Q = AW d 117 17 [x0, x1, x2, x3, x4, x5, x6, x7] (.int 1 :: st) σ ρ g τ Q := aw_lc m117 d117_16 rfl rfl rfl
theorem d117_17 : decode cX11_bestRate 17 = .ok (.invokestatic 74, 3) := by decide +kernel
theorem s117_17 {d : Nat} {st : List Value} {σ : am_I} {ρ : am_R} {g : am_J} {τ : am_T} {Q : am_Q} {x0 x1 x2 x3 x4 x5 x6 x7 : Value} {p0 : Int32} {p1 : Int32} {p2 : Int32} (hs : st.length ≤ 4) : AW (d + 1) 117 17 [x0, x1, x2, x3, x4, x5, x6, x7] (.int p2 :: .int p1 :: .int p0 :: st) σ ρ g τ Q = AW d 100 0 [.int p0, .int p1, .int p2] [] σ ρ g τ (fun r9 σ ρ g τ => AW (d + 1) 117 20 [x0, x1, x2, x3, x4, x5, x6, x7] (r9.toList ++ st) σ ρ g τ Q) := aw_cs m117 d117_17 rfl (by simp only [List.length_cons]; omega) rfl rfl en100 ok100 rfl hs
theorem d117_20 : decode cX11_bestRate 20 = .ok (.ifCond .ne 5, 3) := by decide +kernel
theorem s117_20 {d : Nat} {st : List Value} {σ : am_I} {ρ : am_R} {g : am_J} {τ : am_T} {Q : am_Q} {x0 x1 x2 x3 x4 x5 x6 x7 : Value} {v : Int32} : AW d 117 20 [x0, x1, x2, x3, x4, x5, x6, x7] (.int v :: st) σ ρ g τ Q = if ¬ v = 0 then AW d 117 25 [x0, x1, x2, x3, x4, x5, x6, x7] (st) σ ρ g τ Q else AW d 117 23 [x0, x1, x2, x3, x4, x5, x6, x7] (st) σ ρ g τ Q := aw_br m117 d117_20 rfl rfl rfl
theorem d117_23 : decode cX11_bestRate 23 = .ok (.iconst (-1), 1) := by decide +kernel
theorem s117_23 {d : Nat} {st : List Value} {σ : am_I} {ρ : am_R} {g : am_J} {τ : am_T} {Q : am_Q} {x0 x1 x2 x3 x4 x5 x6 x7 : Value} : AW d 117 23 [x0, x1, x2, x3, x4, x5, x6, x7] (st) σ ρ g τ Q = AW d 117 24 [x0, x1, x2, x3, x4, x5, x6, x7] (.int (-1) :: st) σ ρ g τ Q := aw_lc m117 d117_23 rfl rfl rfl
theorem d117_24 : decode cX11_bestRate 24 = .ok (.ireturn, 1) := by decide +kernel
theorem s117_24 {d : Nat} {σ : am_I} {ρ : am_R} {g : am_J} {τ : am_T} {Q : am_Q} {x0 x1 x2 x3 x4 x5 x6 x7 : Value} {v : Int32} : AW d 117 24 [x0, x1, x2, x3, x4, x5, x6, x7] ([.int v]) σ ρ g τ Q = Q (some (.int v)) σ ρ g τ := aw_ri m117 d117_24 rfl
theorem d117_25 : decode cX11_bestRate 25 = .ok (.iconst 0, 1) := by decide +kernel
theorem s117_25 {d : Nat} {st : List Value} {σ : am_I} {ρ : am_R} {g : am_J} {τ : am_T} {Q : am_Q} {x0 x1 x2 x3 x4 x5 x6 x7 : Value} : AW d 117 25 [x0, x1, x2, x3, x4, x5, x6, x7] (st) σ ρ g τ Q = AW d 117 26 [x0, x1, x2, x3, x4, x5, x6, x7] (.int 0 :: st) σ ρ g τ Q := aw_lc m117 d117_25 rfl rfl rfl
theorem d117_26 : decode cX11_bestRate 26 = .ok (.istore 4, 2) := by decide +kernel
theorem s117_26 {d : Nat} {st : List Value} {σ : am_I} {ρ : am_R} {g : am_J} {τ : am_T} {Q : am_Q} {x0 x1 x2 x4 x5 x6 x7 : Value} {v : Int32} {u : Int32} : AW d 117 26 [x0, x1, x2, .int u, x4, x5, x6, x7] (.int v :: st) σ ρ g τ Q = AW d 117 28 [x0, x1, x2, .int u, .int v, x5, x6, x7] (st) σ ρ g τ Q := aw_lc m117 d117_26 rfl rfl rfl
theorem d117_28 : decode cX11_bestRate 28 = .ok (.aload_n 0, 1) := by decide +kernel
theorem s117_28 {d : Nat} {st : List Value} {σ : am_I} {ρ : am_R} {g : am_J} {τ : am_T} {Q : am_Q} {x1 x2 x3 x4 x5 x6 x7 : Value} {v : Nat} : AW d 117 28 [.ref v, x1, x2, x3, x4, x5, x6, x7] (st) σ ρ g τ Q = AW d 117 29 [.ref v, x1, x2, x3, x4, x5, x6, x7] (.ref v :: st) σ ρ g τ Q := aw_lc m117 d117_28 rfl rfl rfl
theorem d117_29 : decode cX11_bestRate 29 = .ok (.getfield 10, 3) := by decide +kernel
theorem s117_29 {d : Nat} {st : List Value} {σ : am_I} {ρ : am_R} {g : am_J} {τ : am_T} {Q : am_Q} {x0 x1 x2 x3 x4 x5 x6 x7 : Value} {a : Nat} (ht : τ.1 a = 11) : AW d 117 29 [x0, x1, x2, x3, x4, x5, x6, x7] (.ref a :: st) σ ρ g τ Q = AW d 117 32 [x0, x1, x2, x3, x4, x5, x6, x7] (va_rf (ρ a 0) :: st) σ ρ g τ Q := aw_gr m117 d117_29 rfl rfl rfl ht
theorem d117_32 : decode cX11_bestRate 32 = .ok (.iload_n 1, 1) := by decide +kernel
theorem s117_32 {d : Nat} {st : List Value} {σ : am_I} {ρ : am_R} {g : am_J} {τ : am_T} {Q : am_Q} {x0 x2 x3 x4 x5 x6 x7 : Value} {v : Int32} : AW d 117 32 [x0, .int v, x2, x3, x4, x5, x6, x7] (st) σ ρ g τ Q = AW d 117 33 [x0, .int v, x2, x3, x4, x5, x6, x7] (.int v :: st) σ ρ g τ Q := aw_lc m117 d117_32 rfl rfl rfl
theorem d117_33 : decode cX11_bestRate 33 = .ok (.iload_n 2, 1) := by decide +kernel
theorem s117_33 {d : Nat} {st : List Value} {σ : am_I} {ρ : am_R} {g : am_J} {τ : am_T} {Q : am_Q} {x0 x1 x3 x4 x5 x6 x7 : Value} {v : Int32} : AW d 117 33 [x0, x1, .int v, x3, x4, x5, x6, x7] (st) σ ρ g τ Q = AW d 117 34 [x0, x1, .int v, x3, x4, x5, x6, x7] (.int v :: st) σ ρ g τ Q := aw_lc m117 d117_33 rfl rfl rfl
theorem d117_34 : decode cX11_bestRate 34 = .ok (.iconst 0, 1) := by decide +kernel
theorem s117_34 {d : Nat} {st : List Value} {σ : am_I} {ρ : am_R} {g : am_J} {τ : am_T} {Q : am_Q} {x0 x1 x2 x3 x4 x5 x6 x7 : Value} : AW d 117 34 [x0, x1, x2, x3, x4, x5, x6, x7] (st) σ ρ g τ Q = AW d 117 35 [x0, x1, x2, x3, x4, x5, x6, x7] (.int 0 :: st) σ ρ g τ Q := aw_lc m117 d117_34 rfl rfl rfl
theorem d117_35 : decode cX11_bestRate 35 = .ok (.invokevirtual 92, 3) := by decide +kernel
theorem s117_35 {d : Nat} {st : List Value} {σ : am_I} {ρ : am_R} {g : am_J} {τ : am_T} {Q : am_Q} {x0 x1 x2 x3 x4 x5 x6 x7 : Value} {p0 : Nat} {p1 : Int32} {p2 : Int32} {p3 : Int32} (ht : τ.1 p0 = 3) (hs : st.length ≤ 4) : AW (d + 1) 117 35 [x0, x1, x2, x3, x4, x5, x6, x7] (.int p3 :: .int p2 :: .int p1 :: .ref p0 :: st) σ ρ g τ Q = AW d 29 0 [.ref p0, .int p1, .int p2, .int p3, am_jk, am_jk, am_jk] [] σ ρ g τ (fun r9 σ ρ g τ => AW (d + 1) 117 38 [x0, x1, x2, x3, x4, x5, x6, x7] (r9.toList ++ st) σ ρ g τ Q) := aw_cv m117 d117_35 rfl m29 rfl rfl (by decide) en29 ok29 rfl ht hs
theorem d117_38 : decode cX11_bestRate 38 = .ok (.istore 5, 2) := by decide +kernel
theorem s117_38 {d : Nat} {st : List Value} {σ : am_I} {ρ : am_R} {g : am_J} {τ : am_T} {Q : am_Q} {x0 x1 x2 x3 x5 x6 x7 : Value} {v : Int32} {u : Int32} : AW d 117 38 [x0, x1, x2, x3, .int u, x5, x6, x7] (.int v :: st) σ ρ g τ Q = AW d 117 40 [x0, x1, x2, x3, .int u, .int v, x6, x7] (st) σ ρ g τ Q := aw_lc m117 d117_38 rfl rfl rfl
theorem d117_40 : decode cX11_bestRate 40 = .ok (.iconst 1, 1) := by decide +kernel
theorem s117_40 {d : Nat} {st : List Value} {σ : am_I} {ρ : am_R} {g : am_J} {τ : am_T} {Q : am_Q} {x0 x1 x2 x3 x4 x5 x6 x7 : Value} : AW d 117 40 [x0, x1, x2, x3, x4, x5, x6, x7] (st) σ ρ g τ Q = AW d 117 41 [x0, x1, x2, x3, x4, x5, x6, x7] (.int 1 :: st) σ ρ g τ Q := aw_lc m117 d117_40 rfl rfl rfl
theorem d117_41 : decode cX11_bestRate 41 = .ok (.istore 6, 2) := by decide +kernel
theorem s117_41 {d : Nat} {st : List Value} {σ : am_I} {ρ : am_R} {g : am_J} {τ : am_T} {Q : am_Q} {x0 x1 x2 x3 x4 x6 x7 : Value} {v : Int32} {u : Int32} : AW d 117 41 [x0, x1, x2, x3, x4, .int u, x6, x7] (.int v :: st) σ ρ g τ Q = AW d 117 43 [x0, x1, x2, x3, x4, .int u, .int v, x7] (st) σ ρ g τ Q := aw_lc m117 d117_41 rfl rfl rfl
theorem d117_43 : decode cX11_bestRate 43 = .ok (.iload 6, 2) := by decide +kernel
theorem s117_43 {d : Nat} {st : List Value} {σ : am_I} {ρ : am_R} {g : am_J} {τ : am_T} {Q : am_Q} {x0 x1 x2 x3 x4 x5 x7 : Value} {v : Int32} : AW d 117 43 [x0, x1, x2, x3, x4, x5, .int v, x7] (st) σ ρ g τ Q = AW d 117 45 [x0, x1, x2, x3, x4, x5, .int v, x7] (.int v :: st) σ ρ g τ Q := aw_lc m117 d117_43 rfl rfl rfl
theorem d117_45 : decode cX11_bestRate 45 = .ok (.bipush 100, 2) := by decide +kernel
theorem s117_45 {d : Nat} {st : List Value} {σ : am_I} {ρ : am_R} {g : am_J} {τ : am_T} {Q : am_Q} {x0 x1 x2 x3 x4 x5 x6 x7 : Value} : AW d 117 45 [x0, x1, x2, x3, x4, x5, x6, x7] (st) σ ρ g τ Q = AW d 117 47 [x0, x1, x2, x3, x4, x5, x6, x7] (.int 100 :: st) σ ρ g τ Q := aw_lc m117 d117_45 rfl rfl rfl
theorem d117_47 : decode cX11_bestRate 47 = .ok (.if_icmp .gt 37, 3) := by decide +kernel
theorem s117_47 {d : Nat} {st : List Value} {σ : am_I} {ρ : am_R} {g : am_J} {τ : am_T} {Q : am_Q} {x0 x1 x2 x3 x4 x5 x6 x7 : Value} {v w : Int32} : AW d 117 47 [x0, x1, x2, x3, x4, x5, x6, x7] (.int w :: .int v :: st) σ ρ g τ Q = if w < v then AW d 117 84 [x0, x1, x2, x3, x4, x5, x6, x7] (st) σ ρ g τ Q else AW d 117 50 [x0, x1, x2, x3, x4, x5, x6, x7] (st) σ ρ g τ Q := aw_br m117 d117_47 rfl rfl rfl
theorem d117_50 : decode cX11_bestRate 50 = .ok (.aload_n 0, 1) := by decide +kernel
theorem s117_50 {d : Nat} {st : List Value} {σ : am_I} {ρ : am_R} {g : am_J} {τ : am_T} {Q : am_Q} {x1 x2 x3 x4 x5 x6 x7 : Value} {v : Nat} : AW d 117 50 [.ref v, x1, x2, x3, x4, x5, x6, x7] (st) σ ρ g τ Q = AW d 117 51 [.ref v, x1, x2, x3, x4, x5, x6, x7] (.ref v :: st) σ ρ g τ Q := aw_lc m117 d117_50 rfl rfl rfl
theorem d117_51 : decode cX11_bestRate 51 = .ok (.getfield 10, 3) := by decide +kernel
theorem s117_51 {d : Nat} {st : List Value} {σ : am_I} {ρ : am_R} {g : am_J} {τ : am_T} {Q : am_Q} {x0 x1 x2 x3 x4 x5 x6 x7 : Value} {a : Nat} (ht : τ.1 a = 11) : AW d 117 51 [x0, x1, x2, x3, x4, x5, x6, x7] (.ref a :: st) σ ρ g τ Q = AW d 117 54 [x0, x1, x2, x3, x4, x5, x6, x7] (va_rf (ρ a 0) :: st) σ ρ g τ Q := aw_gr m117 d117_51 rfl rfl rfl ht
theorem d117_54 : decode cX11_bestRate 54 = .ok (.iload_n 1, 1) := by decide +kernel
theorem s117_54 {d : Nat} {st : List Value} {σ : am_I} {ρ : am_R} {g : am_J} {τ : am_T} {Q : am_Q} {x0 x2 x3 x4 x5 x6 x7 : Value} {v : Int32} : AW d 117 54 [x0, .int v, x2, x3, x4, x5, x6, x7] (st) σ ρ g τ Q = AW d 117 55 [x0, .int v, x2, x3, x4, x5, x6, x7] (.int v :: st) σ ρ g τ Q := aw_lc m117 d117_54 rfl rfl rfl
theorem d117_55 : decode cX11_bestRate 55 = .ok (.iload_n 2, 1) := by decide +kernel
theorem s117_55 {d : Nat} {st : List Value} {σ : am_I} {ρ : am_R} {g : am_J} {τ : am_T} {Q : am_Q} {x0 x1 x3 x4 x5 x6 x7 : Value} {v : Int32} : AW d 117 55 [x0, x1, .int v, x3, x4, x5, x6, x7] (st) σ ρ g τ Q = AW d 117 56 [x0, x1, .int v, x3, x4, x5, x6, x7] (.int v :: st) σ ρ g τ Q := aw_lc m117 d117_55 rfl rfl rfl
theorem d117_56 : decode cX11_bestRate 56 = .ok (.iload 6, 2) := by decide +kernel
theorem s117_56 {d : Nat} {st : List Value} {σ : am_I} {ρ : am_R} {g : am_J} {τ : am_T} {Q : am_Q} {x0 x1 x2 x3 x4 x5 x7 : Value} {v : Int32} : AW d 117 56 [x0, x1, x2, x3, x4, x5, .int v, x7] (st) σ ρ g τ Q = AW d 117 58 [x0, x1, x2, x3, x4, x5, .int v, x7] (.int v :: st) σ ρ g τ Q := aw_lc m117 d117_56 rfl rfl rfl
theorem d117_58 : decode cX11_bestRate 58 = .ok (.invokevirtual 92, 3) := by decide +kernel
theorem s117_58 {d : Nat} {st : List Value} {σ : am_I} {ρ : am_R} {g : am_J} {τ : am_T} {Q : am_Q} {x0 x1 x2 x3 x4 x5 x6 x7 : Value} {p0 : Nat} {p1 : Int32} {p2 : Int32} {p3 : Int32} (ht : τ.1 p0 = 3) (hs : st.length ≤ 4) : AW (d + 1) 117 58 [x0, x1, x2, x3, x4, x5, x6, x7] (.int p3 :: .int p2 :: .int p1 :: .ref p0 :: st) σ ρ g τ Q = AW d 29 0 [.ref p0, .int p1, .int p2, .int p3, am_jk, am_jk, am_jk] [] σ ρ g τ (fun r9 σ ρ g τ => AW (d + 1) 117 61 [x0, x1, x2, x3, x4, x5, x6, x7] (r9.toList ++ st) σ ρ g τ Q) := aw_cv m117 d117_58 rfl m29 rfl rfl (by decide) en29 ok29 rfl ht hs
theorem d117_61 : decode cX11_bestRate 61 = .ok (.istore 7, 2) := by decide +kernel
theorem s117_61 {d : Nat} {st : List Value} {σ : am_I} {ρ : am_R} {g : am_J} {τ : am_T} {Q : am_Q} {x0 x1 x2 x3 x4 x5 x7 : Value} {v : Int32} {u : Int32} : AW d 117 61 [x0, x1, x2, x3, x4, x5, .int u, x7] (.int v :: st) σ ρ g τ Q = AW d 117 63 [x0, x1, x2, x3, x4, x5, .int u, .int v] (st) σ ρ g τ Q := aw_lc m117 d117_61 rfl rfl rfl
theorem d117_63 : decode cX11_bestRate 63 = .ok (.iload 7, 2) := by decide +kernel
theorem s117_63 {d : Nat} {st : List Value} {σ : am_I} {ρ : am_R} {g : am_J} {τ : am_T} {Q : am_Q} {x0 x1 x2 x3 x4 x5 x6 : Value} {v : Int32} : AW d 117 63 [x0, x1, x2, x3, x4, x5, x6, .int v] (st) σ ρ g τ Q = AW d 117 65 [x0, x1, x2, x3, x4, x5, x6, .int v] (.int v :: st) σ ρ g τ Q := aw_lc m117 d117_63 rfl rfl rfl
theorem d117_65 : decode cX11_bestRate 65 = .ok (.iload 5, 2) := by decide +kernel
theorem s117_65 {d : Nat} {st : List Value} {σ : am_I} {ρ : am_R} {g : am_J} {τ : am_T} {Q : am_Q} {x0 x1 x2 x3 x4 x6 x7 : Value} {v : Int32} : AW d 117 65 [x0, x1, x2, x3, x4, .int v, x6, x7] (st) σ ρ g τ Q = AW d 117 67 [x0, x1, x2, x3, x4, .int v, x6, x7] (.int v :: st) σ ρ g τ Q := aw_lc m117 d117_65 rfl rfl rfl
theorem d117_67 : decode cX11_bestRate 67 = .ok (.if_icmp .le 11, 3) := by decide +kernel
theorem s117_67 {d : Nat} {st : List Value} {σ : am_I} {ρ : am_R} {g : am_J} {τ : am_T} {Q : am_Q} {x0 x1 x2 x3 x4 x5 x6 x7 : Value} {v w : Int32} : AW d 117 67 [x0, x1, x2, x3, x4, x5, x6, x7] (.int w :: .int v :: st) σ ρ g τ Q = if v ≤ w then AW d 117 78 [x0, x1, x2, x3, x4, x5, x6, x7] (st) σ ρ g τ Q else AW d 117 70 [x0, x1, x2, x3, x4, x5, x6, x7] (st) σ ρ g τ Q := aw_br m117 d117_67 rfl rfl rfl
theorem d117_70 : decode cX11_bestRate 70 = .ok (.iload 6, 2) := by decide +kernel
theorem s117_70 {d : Nat} {st : List Value} {σ : am_I} {ρ : am_R} {g : am_J} {τ : am_T} {Q : am_Q} {x0 x1 x2 x3 x4 x5 x7 : Value} {v : Int32} : AW d 117 70 [x0, x1, x2, x3, x4, x5, .int v, x7] (st) σ ρ g τ Q = AW d 117 72 [x0, x1, x2, x3, x4, x5, .int v, x7] (.int v :: st) σ ρ g τ Q := aw_lc m117 d117_70 rfl rfl rfl
theorem d117_72 : decode cX11_bestRate 72 = .ok (.istore 4, 2) := by decide +kernel
theorem s117_72 {d : Nat} {st : List Value} {σ : am_I} {ρ : am_R} {g : am_J} {τ : am_T} {Q : am_Q} {x0 x1 x2 x4 x5 x6 x7 : Value} {v : Int32} {u : Int32} : AW d 117 72 [x0, x1, x2, .int u, x4, x5, x6, x7] (.int v :: st) σ ρ g τ Q = AW d 117 74 [x0, x1, x2, .int u, .int v, x5, x6, x7] (st) σ ρ g τ Q := aw_lc m117 d117_72 rfl rfl rfl
theorem d117_74 : decode cX11_bestRate 74 = .ok (.iload 7, 2) := by decide +kernel
theorem s117_74 {d : Nat} {st : List Value} {σ : am_I} {ρ : am_R} {g : am_J} {τ : am_T} {Q : am_Q} {x0 x1 x2 x3 x4 x5 x6 : Value} {v : Int32} : AW d 117 74 [x0, x1, x2, x3, x4, x5, x6, .int v] (st) σ ρ g τ Q = AW d 117 76 [x0, x1, x2, x3, x4, x5, x6, .int v] (.int v :: st) σ ρ g τ Q := aw_lc m117 d117_74 rfl rfl rfl
theorem d117_76 : decode cX11_bestRate 76 = .ok (.istore 5, 2) := by decide +kernel
theorem s117_76 {d : Nat} {st : List Value} {σ : am_I} {ρ : am_R} {g : am_J} {τ : am_T} {Q : am_Q} {x0 x1 x2 x3 x5 x6 x7 : Value} {v : Int32} {u : Int32} : AW d 117 76 [x0, x1, x2, x3, .int u, x5, x6, x7] (.int v :: st) σ ρ g τ Q = AW d 117 78 [x0, x1, x2, x3, .int u, .int v, x6, x7] (st) σ ρ g τ Q := aw_lc m117 d117_76 rfl rfl rfl
theorem d117_78 : decode cX11_bestRate 78 = .ok (.iinc 6 1, 3) := by decide +kernel
theorem s117_78 {d : Nat} {st : List Value} {σ : am_I} {ρ : am_R} {g : am_J} {τ : am_T} {Q : am_Q} {x0 x1 x2 x3 x4 x7 : Value} {v : Int32} {u : Int32} : AW d 117 78 [x0, x1, x2, x3, x4, .int u, .int v, x7] (st) σ ρ g τ Q = AW d 117 81 [x0, x1, x2, x3, x4, .int u, .int (v + 1), x7] (st) σ ρ g τ Q := aw_lc m117 d117_78 rfl rfl rfl
theorem d117_81 : decode cX11_bestRate 81 = .ok (.goto (-38), 3) := by decide +kernel
theorem s117_81 {d : Nat} {st : List Value} {σ : am_I} {ρ : am_R} {g : am_J} {τ : am_T} {Q : am_Q} {x0 x1 x2 x3 x4 x5 x6 x7 : Value} : AW d 117 81 [x0, x1, x2, x3, x4, x5, x6, x7] (st) σ ρ g τ Q = AW d 117 43 [x0, x1, x2, x3, x4, x5, x6, x7] (st) σ ρ g τ Q := aw_lc m117 d117_81 rfl rfl rfl
theorem d117_84 : decode cX11_bestRate 84 = .ok (.iload_n 3, 1) := by decide +kernel
theorem s117_84 {d : Nat} {st : List Value} {σ : am_I} {ρ : am_R} {g : am_J} {τ : am_T} {Q : am_Q} {x0 x1 x2 x4 x5 x6 x7 : Value} {v : Int32} : AW d 117 84 [x0, x1, x2, .int v, x4, x5, x6, x7] (st) σ ρ g τ Q = AW d 117 85 [x0, x1, x2, .int v, x4, x5, x6, x7] (.int v :: st) σ ρ g τ Q := aw_lc m117 d117_84 rfl rfl rfl
theorem d117_85 : decode cX11_bestRate 85 = .ok (.ifCond .ne 8, 3) := by decide +kernel
theorem s117_85 {d : Nat} {st : List Value} {σ : am_I} {ρ : am_R} {g : am_J} {τ : am_T} {Q : am_Q} {x0 x1 x2 x3 x4 x5 x6 x7 : Value} {v : Int32} : AW d 117 85 [x0, x1, x2, x3, x4, x5, x6, x7] (.int v :: st) σ ρ g τ Q = if ¬ v = 0 then AW d 117 93 [x0, x1, x2, x3, x4, x5, x6, x7] (st) σ ρ g τ Q else AW d 117 88 [x0, x1, x2, x3, x4, x5, x6, x7] (st) σ ρ g τ Q := aw_br m117 d117_85 rfl rfl rfl
theorem d117_88 : decode cX11_bestRate 88 = .ok (.iload 4, 2) := by decide +kernel
theorem s117_88 {d : Nat} {st : List Value} {σ : am_I} {ρ : am_R} {g : am_J} {τ : am_T} {Q : am_Q} {x0 x1 x2 x3 x5 x6 x7 : Value} {v : Int32} : AW d 117 88 [x0, x1, x2, x3, .int v, x5, x6, x7] (st) σ ρ g τ Q = AW d 117 90 [x0, x1, x2, x3, .int v, x5, x6, x7] (.int v :: st) σ ρ g τ Q := aw_lc m117 d117_88 rfl rfl rfl
theorem d117_90 : decode cX11_bestRate 90 = .ok (.goto 5, 3) := by decide +kernel
theorem s117_90 {d : Nat} {st : List Value} {σ : am_I} {ρ : am_R} {g : am_J} {τ : am_T} {Q : am_Q} {x0 x1 x2 x3 x4 x5 x6 x7 : Value} : AW d 117 90 [x0, x1, x2, x3, x4, x5, x6, x7] (st) σ ρ g τ Q = AW d 117 95 [x0, x1, x2, x3, x4, x5, x6, x7] (st) σ ρ g τ Q := aw_lc m117 d117_90 rfl rfl rfl
theorem d117_93 : decode cX11_bestRate 93 = .ok (.iload 5, 2) := by decide +kernel
theorem s117_93 {d : Nat} {st : List Value} {σ : am_I} {ρ : am_R} {g : am_J} {τ : am_T} {Q : am_Q} {x0 x1 x2 x3 x4 x6 x7 : Value} {v : Int32} : AW d 117 93 [x0, x1, x2, x3, x4, .int v, x6, x7] (st) σ ρ g τ Q = AW d 117 95 [x0, x1, x2, x3, x4, .int v, x6, x7] (.int v :: st) σ ρ g τ Q := aw_lc m117 d117_93 rfl rfl rfl
theorem d117_95 : decode cX11_bestRate 95 = .ok (.ireturn, 1) := by decide +kernel
theorem s117_95 {d : Nat} {σ : am_I} {ρ : am_R} {g : am_J} {τ : am_T} {Q : am_Q} {x0 x1 x2 x3 x4 x5 x6 x7 : Value} {v : Int32} : AW d 117 95 [x0, x1, x2, x3, x4, x5, x6, x7] ([.int v]) σ ρ g τ Q = Q (some (.int v)) σ ρ g τ := aw_ri m117 d117_95 rfl
theorem d118_0 : decode cX11_least 0 = .ok (.iload_n 1, 1) := by decide +kernel
theorem s118_0 {d : Nat} {st : List Value} {σ : am_I} {ρ : am_R} {g : am_J} {τ : am_T} {Q : am_Q} {x0 x2 x3 x4 x5 : Value} {v : Int32} : AW d 118 0 [x0, .int v, x2, x3, x4, x5] (st) σ ρ g τ Q = AW d 118 1 [x0, .int v, x2, x3, x4, x5] (.int v :: st) σ ρ g τ Q := aw_lc m118 d118_0 rfl rfl rfl
theorem d118_1 : decode cX11_least 1 = .ok (.iconst 0, 1) := by decide +kernel
theorem s118_1 {d : Nat} {st : List Value} {σ : am_I} {ρ : am_R} {g : am_J} {τ : am_T} {Q : am_Q} {x0 x1 x2 x3 x4 x5 : Value} : AW d 118 1 [x0, x1, x2, x3, x4, x5] (st) σ ρ g τ Q = AW d 118 2 [x0, x1, x2, x3, x4, x5] (.int 0 :: st) σ ρ g τ Q := aw_lc m118 d118_1 rfl rfl rfl
theorem d118_2 : decode cX11_least 2 = .ok (.bipush 40, 2) := by decide +kernel
theorem s118_2 {d : Nat} {st : List Value} {σ : am_I} {ρ : am_R} {g : am_J} {τ : am_T} {Q : am_Q} {x0 x1 x2 x3 x4 x5 : Value} : AW d 118 2 [x0, x1, x2, x3, x4, x5] (st) σ ρ g τ Q = AW d 118 4 [x0, x1, x2, x3, x4, x5] (.int 40 :: st) σ ρ g τ Q := aw_lc m118 d118_2 rfl rfl rfl
theorem d118_4 : decode cX11_least 4 = .ok (.invokestatic 74, 3) := by decide +kernel
theorem s118_4 {d : Nat} {st : List Value} {σ : am_I} {ρ : am_R} {g : am_J} {τ : am_T} {Q : am_Q} {x0 x1 x2 x3 x4 x5 : Value} {p0 : Int32} {p1 : Int32} {p2 : Int32} (hs : st.length ≤ 4) : AW (d + 1) 118 4 [x0, x1, x2, x3, x4, x5] (.int p2 :: .int p1 :: .int p0 :: st) σ ρ g τ Q = AW d 100 0 [.int p0, .int p1, .int p2] [] σ ρ g τ (fun r9 σ ρ g τ => AW (d + 1) 118 7 [x0, x1, x2, x3, x4, x5] (r9.toList ++ st) σ ρ g τ Q) := aw_cs m118 d118_4 rfl (by simp only [List.length_cons]; omega) rfl rfl en100 ok100 rfl hs
theorem d118_7 : decode cX11_least 7 = .ok (.ifCond .eq 27, 3) := by decide +kernel
theorem s118_7 {d : Nat} {st : List Value} {σ : am_I} {ρ : am_R} {g : am_J} {τ : am_T} {Q : am_Q} {x0 x1 x2 x3 x4 x5 : Value} {v : Int32} : AW d 118 7 [x0, x1, x2, x3, x4, x5] (.int v :: st) σ ρ g τ Q = if v = 0 then AW d 118 34 [x0, x1, x2, x3, x4, x5] (st) σ ρ g τ Q else AW d 118 10 [x0, x1, x2, x3, x4, x5] (st) σ ρ g τ Q := aw_br m118 d118_7 rfl rfl rfl
theorem d118_10 : decode cX11_least 10 = .ok (.iload_n 2, 1) := by decide +kernel
theorem s118_10 {d : Nat} {st : List Value} {σ : am_I} {ρ : am_R} {g : am_J} {τ : am_T} {Q : am_Q} {x0 x1 x3 x4 x5 : Value} {v : Int32} : AW d 118 10 [x0, x1, .int v, x3, x4, x5] (st) σ ρ g τ Q = AW d 118 11 [x0, x1, .int v, x3, x4, x5] (.int v :: st) σ ρ g τ Q := aw_lc m118 d118_10 rfl rfl rfl
theorem d118_11 : decode cX11_least 11 = .ok (.invokestatic 149, 3) := by decide +kernel
theorem s118_11 {d : Nat} {st : List Value} {σ : am_I} {ρ : am_R} {g : am_J} {τ : am_T} {Q : am_Q} {x0 x1 x2 x3 x4 x5 : Value} {p0 : Int32} (hs : st.length ≤ 4) : AW (d + 1) 118 11 [x0, x1, x2, x3, x4, x5] (.int p0 :: st) σ ρ g τ Q = AW d 101 0 [.int p0] [] σ ρ g τ (fun r9 σ ρ g τ => AW (d + 1) 118 14 [x0, x1, x2, x3, x4, x5] (r9.toList ++ st) σ ρ g τ Q) := aw_cs m118 d118_11 rfl (by simp only [List.length_cons]; omega) rfl rfl en101 ok101 rfl hs
theorem d118_14 : decode cX11_least 14 = .ok (.ifCond .eq 20, 3) := by decide +kernel
theorem s118_14 {d : Nat} {st : List Value} {σ : am_I} {ρ : am_R} {g : am_J} {τ : am_T} {Q : am_Q} {x0 x1 x2 x3 x4 x5 : Value} {v : Int32} : AW d 118 14 [x0, x1, x2, x3, x4, x5] (.int v :: st) σ ρ g τ Q = if v = 0 then AW d 118 34 [x0, x1, x2, x3, x4, x5] (st) σ ρ g τ Q else AW d 118 17 [x0, x1, x2, x3, x4, x5] (st) σ ρ g τ Q := aw_br m118 d118_14 rfl rfl rfl
theorem d118_17 : decode cX11_least 17 = .ok (.iload_n 3, 1) := by decide +kernel
theorem s118_17 {d : Nat} {st : List Value} {σ : am_I} {ρ : am_R} {g : am_J} {τ : am_T} {Q : am_Q} {x0 x1 x2 x4 x5 : Value} {v : Int32} : AW d 118 17 [x0, x1, x2, .int v, x4, x5] (st) σ ρ g τ Q = AW d 118 18 [x0, x1, x2, .int v, x4, x5] (.int v :: st) σ ρ g τ Q := aw_lc m118 d118_17 rfl rfl rfl
theorem d118_18 : decode cX11_least 18 = .ok (.iconst (-1), 1) := by decide +kernel
theorem s118_18 {d : Nat} {st : List Value} {σ : am_I} {ρ : am_R} {g : am_J} {τ : am_T} {Q : am_Q} {x0 x1 x2 x3 x4 x5 : Value} : AW d 118 18 [x0, x1, x2, x3, x4, x5] (st) σ ρ g τ Q = AW d 118 19 [x0, x1, x2, x3, x4, x5] (.int (-1) :: st) σ ρ g τ Q := aw_lc m118 d118_18 rfl rfl rfl
theorem d118_19 : decode cX11_least 19 = .ok (.aload_n 0, 1) := by decide +kernel
theorem s118_19 {d : Nat} {st : List Value} {σ : am_I} {ρ : am_R} {g : am_J} {τ : am_T} {Q : am_Q} {x1 x2 x3 x4 x5 : Value} {v : Nat} : AW d 118 19 [.ref v, x1, x2, x3, x4, x5] (st) σ ρ g τ Q = AW d 118 20 [.ref v, x1, x2, x3, x4, x5] (.ref v :: st) σ ρ g τ Q := aw_lc m118 d118_19 rfl rfl rfl
theorem d118_20 : decode cX11_least 20 = .ok (.getfield 10, 3) := by decide +kernel
theorem s118_20 {d : Nat} {st : List Value} {σ : am_I} {ρ : am_R} {g : am_J} {τ : am_T} {Q : am_Q} {x0 x1 x2 x3 x4 x5 : Value} {a : Nat} (ht : τ.1 a = 11) : AW d 118 20 [x0, x1, x2, x3, x4, x5] (.ref a :: st) σ ρ g τ Q = AW d 118 23 [x0, x1, x2, x3, x4, x5] (va_rf (ρ a 0) :: st) σ ρ g τ Q := aw_gr m118 d118_20 rfl rfl rfl ht
theorem d118_23 : decode cX11_least 23 = .ok (.getfield 110, 3) := by decide +kernel
theorem s118_23 {d : Nat} {st : List Value} {σ : am_I} {ρ : am_R} {g : am_J} {τ : am_T} {Q : am_Q} {x0 x1 x2 x3 x4 x5 : Value} {a : Nat} (ht : τ.1 a = 3) : AW d 118 23 [x0, x1, x2, x3, x4, x5] (.ref a :: st) σ ρ g τ Q = AW d 118 26 [x0, x1, x2, x3, x4, x5] (.int (σ a 6) :: st) σ ρ g τ Q := aw_gi m118 d118_23 rfl rfl rfl ht
theorem d118_26 : decode cX11_least 26 = .ok (.iconst 1, 1) := by decide +kernel
theorem s118_26 {d : Nat} {st : List Value} {σ : am_I} {ρ : am_R} {g : am_J} {τ : am_T} {Q : am_Q} {x0 x1 x2 x3 x4 x5 : Value} : AW d 118 26 [x0, x1, x2, x3, x4, x5] (st) σ ρ g τ Q = AW d 118 27 [x0, x1, x2, x3, x4, x5] (.int 1 :: st) σ ρ g τ Q := aw_lc m118 d118_26 rfl rfl rfl
theorem d118_27 : decode cX11_least 27 = .ok (.isub, 1) := by decide +kernel
theorem s118_27 {d : Nat} {st : List Value} {σ : am_I} {ρ : am_R} {g : am_J} {τ : am_T} {Q : am_Q} {x0 x1 x2 x3 x4 x5 : Value} {v w : Int32} : AW d 118 27 [x0, x1, x2, x3, x4, x5] (.int w :: .int v :: st) σ ρ g τ Q = AW d 118 28 [x0, x1, x2, x3, x4, x5] (.int (v - w) :: st) σ ρ g τ Q := aw_lc m118 d118_27 rfl rfl rfl
theorem d118_28 : decode cX11_least 28 = .ok (.invokestatic 74, 3) := by decide +kernel
theorem s118_28 {d : Nat} {st : List Value} {σ : am_I} {ρ : am_R} {g : am_J} {τ : am_T} {Q : am_Q} {x0 x1 x2 x3 x4 x5 : Value} {p0 : Int32} {p1 : Int32} {p2 : Int32} (hs : st.length ≤ 4) : AW (d + 1) 118 28 [x0, x1, x2, x3, x4, x5] (.int p2 :: .int p1 :: .int p0 :: st) σ ρ g τ Q = AW d 100 0 [.int p0, .int p1, .int p2] [] σ ρ g τ (fun r9 σ ρ g τ => AW (d + 1) 118 31 [x0, x1, x2, x3, x4, x5] (r9.toList ++ st) σ ρ g τ Q) := aw_cs m118 d118_28 rfl (by simp only [List.length_cons]; omega) rfl rfl en100 ok100 rfl hs
theorem d118_31 : decode cX11_least 31 = .ok (.ifCond .ne 5, 3) := by decide +kernel
theorem s118_31 {d : Nat} {st : List Value} {σ : am_I} {ρ : am_R} {g : am_J} {τ : am_T} {Q : am_Q} {x0 x1 x2 x3 x4 x5 : Value} {v : Int32} : AW d 118 31 [x0, x1, x2, x3, x4, x5] (.int v :: st) σ ρ g τ Q = if ¬ v = 0 then AW d 118 36 [x0, x1, x2, x3, x4, x5] (st) σ ρ g τ Q else AW d 118 34 [x0, x1, x2, x3, x4, x5] (st) σ ρ g τ Q := aw_br m118 d118_31 rfl rfl rfl
theorem d118_34 : decode cX11_least 34 = .ok (.iconst (-1), 1) := by decide +kernel
theorem s118_34 {d : Nat} {st : List Value} {σ : am_I} {ρ : am_R} {g : am_J} {τ : am_T} {Q : am_Q} {x0 x1 x2 x3 x4 x5 : Value} : AW d 118 34 [x0, x1, x2, x3, x4, x5] (st) σ ρ g τ Q = AW d 118 35 [x0, x1, x2, x3, x4, x5] (.int (-1) :: st) σ ρ g τ Q := aw_lc m118 d118_34 rfl rfl rfl
theorem d118_35 : decode cX11_least 35 = .ok (.ireturn, 1) := by decide +kernel
theorem s118_35 {d : Nat} {σ : am_I} {ρ : am_R} {g : am_J} {τ : am_T} {Q : am_Q} {x0 x1 x2 x3 x4 x5 : Value} {v : Int32} : AW d 118 35 [x0, x1, x2, x3, x4, x5] ([.int v]) σ ρ g τ Q = Q (some (.int v)) σ ρ g τ := aw_ri m118 d118_35 rfl
theorem d118_36 : decode cX11_least 36 = .ok (.aload_n 0, 1) := by decide +kernel
theorem s118_36 {d : Nat} {st : List Value} {σ : am_I} {ρ : am_R} {g : am_J} {τ : am_T} {Q : am_Q} {x1 x2 x3 x4 x5 : Value} {v : Nat} : AW d 118 36 [.ref v, x1, x2, x3, x4, x5] (st) σ ρ g τ Q = AW d 118 37 [.ref v, x1, x2, x3, x4, x5] (.ref v :: st) σ ρ g τ Q := aw_lc m118 d118_36 rfl rfl rfl
theorem d118_37 : decode cX11_least 37 = .ok (.getfield 10, 3) := by decide +kernel
theorem s118_37 {d : Nat} {st : List Value} {σ : am_I} {ρ : am_R} {g : am_J} {τ : am_T} {Q : am_Q} {x0 x1 x2 x3 x4 x5 : Value} {a : Nat} (ht : τ.1 a = 11) : AW d 118 37 [x0, x1, x2, x3, x4, x5] (.ref a :: st) σ ρ g τ Q = AW d 118 40 [x0, x1, x2, x3, x4, x5] (va_rf (ρ a 0) :: st) σ ρ g τ Q := aw_gr m118 d118_37 rfl rfl rfl ht
theorem d118_40 : decode cX11_least 40 = .ok (.getfield 110, 3) := by decide +kernel
theorem s118_40 {d : Nat} {st : List Value} {σ : am_I} {ρ : am_R} {g : am_J} {τ : am_T} {Q : am_Q} {x0 x1 x2 x3 x4 x5 : Value} {a : Nat} (ht : τ.1 a = 3) : AW d 118 40 [x0, x1, x2, x3, x4, x5] (.ref a :: st) σ ρ g τ Q = AW d 118 43 [x0, x1, x2, x3, x4, x5] (.int (σ a 6) :: st) σ ρ g τ Q := aw_gi m118 d118_40 rfl rfl rfl ht
theorem d118_43 : decode cX11_least 43 = .ok (.istore 4, 2) := by decide +kernel
theorem s118_43 {d : Nat} {st : List Value} {σ : am_I} {ρ : am_R} {g : am_J} {τ : am_T} {Q : am_Q} {x0 x1 x2 x4 x5 : Value} {v : Int32} {u : Int32} : AW d 118 43 [x0, x1, x2, .int u, x4, x5] (.int v :: st) σ ρ g τ Q = AW d 118 45 [x0, x1, x2, .int u, .int v, x5] (st) σ ρ g τ Q := aw_lc m118 d118_43 rfl rfl rfl
theorem d118_45 : decode cX11_least 45 = .ok (.iload 4, 2) := by decide +kernel
theorem s118_45 {d : Nat} {st : List Value} {σ : am_I} {ρ : am_R} {g : am_J} {τ : am_T} {Q : am_Q} {x0 x1 x2 x3 x5 : Value} {v : Int32} : AW d 118 45 [x0, x1, x2, x3, .int v, x5] (st) σ ρ g τ Q = AW d 118 47 [x0, x1, x2, x3, .int v, x5] (.int v :: st) σ ρ g τ Q := aw_lc m118 d118_45 rfl rfl rfl
theorem d118_47 : decode cX11_least 47 = .ok (.ifCond .lt 16, 3) := by decide +kernel
theorem s118_47 {d : Nat} {st : List Value} {σ : am_I} {ρ : am_R} {g : am_J} {τ : am_T} {Q : am_Q} {x0 x1 x2 x3 x4 x5 : Value} {v : Int32} : AW d 118 47 [x0, x1, x2, x3, x4, x5] (.int v :: st) σ ρ g τ Q = if v < 0 then AW d 118 63 [x0, x1, x2, x3, x4, x5] (st) σ ρ g τ Q else AW d 118 50 [x0, x1, x2, x3, x4, x5] (st) σ ρ g τ Q := aw_br m118 d118_47 rfl rfl rfl
theorem d118_50 : decode cX11_least 50 = .ok (.aload_n 0, 1) := by decide +kernel
theorem s118_50 {d : Nat} {st : List Value} {σ : am_I} {ρ : am_R} {g : am_J} {τ : am_T} {Q : am_Q} {x1 x2 x3 x4 x5 : Value} {v : Nat} : AW d 118 50 [.ref v, x1, x2, x3, x4, x5] (st) σ ρ g τ Q = AW d 118 51 [.ref v, x1, x2, x3, x4, x5] (.ref v :: st) σ ρ g τ Q := aw_lc m118 d118_50 rfl rfl rfl
theorem d118_51 : decode cX11_least 51 = .ok (.iload 4, 2) := by decide +kernel
theorem s118_51 {d : Nat} {st : List Value} {σ : am_I} {ρ : am_R} {g : am_J} {τ : am_T} {Q : am_Q} {x0 x1 x2 x3 x5 : Value} {v : Int32} : AW d 118 51 [x0, x1, x2, x3, .int v, x5] (st) σ ρ g τ Q = AW d 118 53 [x0, x1, x2, x3, .int v, x5] (.int v :: st) σ ρ g τ Q := aw_lc m118 d118_51 rfl rfl rfl
theorem d118_53 : decode cX11_least 53 = .ok (.iload_n 2, 1) := by decide +kernel
theorem s118_53 {d : Nat} {st : List Value} {σ : am_I} {ρ : am_R} {g : am_J} {τ : am_T} {Q : am_Q} {x0 x1 x3 x4 x5 : Value} {v : Int32} : AW d 118 53 [x0, x1, .int v, x3, x4, x5] (st) σ ρ g τ Q = AW d 118 54 [x0, x1, .int v, x3, x4, x5] (.int v :: st) σ ρ g τ Q := aw_lc m118 d118_53 rfl rfl rfl
theorem d118_54 : decode cX11_least 54 = .ok (.invokevirtual 159, 3) := by decide +kernel
theorem s118_54 {d : Nat} {st : List Value} {σ : am_I} {ρ : am_R} {g : am_J} {τ : am_T} {Q : am_Q} {x0 x1 x2 x3 x4 x5 : Value} {p0 : Nat} {p1 : Int32} {p2 : Int32} (ht : τ.1 p0 = 11) (hs : st.length ≤ 4) : AW (d + 1) 118 54 [x0, x1, x2, x3, x4, x5] (.int p2 :: .int p1 :: .ref p0 :: st) σ ρ g τ Q = AW d 119 0 [.ref p0, .int p1, .int p2, am_jk, am_jk, am_jk, am_jk, am_jk] [] σ ρ g τ (fun r9 σ ρ g τ => AW (d + 1) 118 57 [x0, x1, x2, x3, x4, x5] (r9.toList ++ st) σ ρ g τ Q) := aw_cv m118 d118_54 rfl m119 rfl rfl (by decide) en119 ok119 rfl ht hs
theorem d118_57 : decode cX11_least 57 = .ok (.iinc 4 (-1), 3) := by decide +kernel
theorem s118_57 {d : Nat} {st : List Value} {σ : am_I} {ρ : am_R} {g : am_J} {τ : am_T} {Q : am_Q} {x0 x1 x2 x5 : Value} {v : Int32} {u : Int32} : AW d 118 57 [x0, x1, x2, .int u, .int v, x5] (st) σ ρ g τ Q = AW d 118 60 [x0, x1, x2, .int u, .int (v + (-1)), x5] (st) σ ρ g τ Q := aw_lc m118 d118_57 rfl rfl rfl
theorem d118_60 : decode cX11_least 60 = .ok (.goto (-15), 3) := by decide +kernel
theorem s118_60 {d : Nat} {st : List Value} {σ : am_I} {ρ : am_R} {g : am_J} {τ : am_T} {Q : am_Q} {x0 x1 x2 x3 x4 x5 : Value} : AW d 118 60 [x0, x1, x2, x3, x4, x5] (st) σ ρ g τ Q = AW d 118 45 [x0, x1, x2, x3, x4, x5] (st) σ ρ g τ Q := aw_lc m118 d118_60 rfl rfl rfl
theorem d118_63 : decode cX11_least 63 = .ok (.iconst 0, 1) := by decide +kernel
theorem s118_63 {d : Nat} {st : List Value} {σ : am_I} {ρ : am_R} {g : am_J} {τ : am_T} {Q : am_Q} {x0 x1 x2 x3 x4 x5 : Value} : AW d 118 63 [x0, x1, x2, x3, x4, x5] (st) σ ρ g τ Q = AW d 118 64 [x0, x1, x2, x3, x4, x5] (.int 0 :: st) σ ρ g τ Q := aw_lc m118 d118_63 rfl rfl rfl
theorem d118_64 : decode cX11_least 64 = .ok (.istore 4, 2) := by decide +kernel
theorem s118_64 {d : Nat} {st : List Value} {σ : am_I} {ρ : am_R} {g : am_J} {τ : am_T} {Q : am_Q} {x0 x1 x2 x4 x5 : Value} {v : Int32} {u : Int32} : AW d 118 64 [x0, x1, x2, .int u, x4, x5] (.int v :: st) σ ρ g τ Q = AW d 118 66 [x0, x1, x2, .int u, .int v, x5] (st) σ ρ g τ Q := aw_lc m118 d118_64 rfl rfl rfl
theorem d118_66 : decode cX11_least 66 = .ok (.iconst 1, 1) := by decide +kernel
theorem s118_66 {d : Nat} {st : List Value} {σ : am_I} {ρ : am_R} {g : am_J} {τ : am_T} {Q : am_Q} {x0 x1 x2 x3 x4 x5 : Value} : AW d 118 66 [x0, x1, x2, x3, x4, x5] (st) σ ρ g τ Q = AW d 118 67 [x0, x1, x2, x3, x4, x5] (.int 1 :: st) σ ρ g τ Q := aw_lc m118 d118_66 rfl rfl rfl
theorem d118_67 : decode cX11_least 67 = .ok (.istore 5, 2) := by decide +kernel
theorem s118_67 {d : Nat} {st : List Value} {σ : am_I} {ρ : am_R} {g : am_J} {τ : am_T} {Q : am_Q} {x0 x1 x2 x3 x5 : Value} {v : Int32} {u : Int32} : AW d 118 67 [x0, x1, x2, x3, .int u, x5] (.int v :: st) σ ρ g τ Q = AW d 118 69 [x0, x1, x2, x3, .int u, .int v] (st) σ ρ g τ Q := aw_lc m118 d118_67 rfl rfl rfl
theorem d118_69 : decode cX11_least 69 = .ok (.iload 5, 2) := by decide +kernel
theorem s118_69 {d : Nat} {st : List Value} {σ : am_I} {ρ : am_R} {g : am_J} {τ : am_T} {Q : am_Q} {x0 x1 x2 x3 x4 : Value} {v : Int32} : AW d 118 69 [x0, x1, x2, x3, x4, .int v] (st) σ ρ g τ Q = AW d 118 71 [x0, x1, x2, x3, x4, .int v] (.int v :: st) σ ρ g τ Q := aw_lc m118 d118_69 rfl rfl rfl
theorem d118_71 : decode cX11_least 71 = .ok (.iload_n 1, 1) := by decide +kernel
theorem s118_71 {d : Nat} {st : List Value} {σ : am_I} {ρ : am_R} {g : am_J} {τ : am_T} {Q : am_Q} {x0 x2 x3 x4 x5 : Value} {v : Int32} : AW d 118 71 [x0, .int v, x2, x3, x4, x5] (st) σ ρ g τ Q = AW d 118 72 [x0, .int v, x2, x3, x4, x5] (.int v :: st) σ ρ g τ Q := aw_lc m118 d118_71 rfl rfl rfl
theorem d118_72 : decode cX11_least 72 = .ok (.if_icmp .gt 30, 3) := by decide +kernel
theorem s118_72 {d : Nat} {st : List Value} {σ : am_I} {ρ : am_R} {g : am_J} {τ : am_T} {Q : am_Q} {x0 x1 x2 x3 x4 x5 : Value} {v w : Int32} : AW d 118 72 [x0, x1, x2, x3, x4, x5] (.int w :: .int v :: st) σ ρ g τ Q = if w < v then AW d 118 102 [x0, x1, x2, x3, x4, x5] (st) σ ρ g τ Q else AW d 118 75 [x0, x1, x2, x3, x4, x5] (st) σ ρ g τ Q := aw_br m118 d118_72 rfl rfl rfl
theorem d118_75 : decode cX11_least 75 = .ok (.aload_n 0, 1) := by decide +kernel
theorem s118_75 {d : Nat} {st : List Value} {σ : am_I} {ρ : am_R} {g : am_J} {τ : am_T} {Q : am_Q} {x1 x2 x3 x4 x5 : Value} {v : Nat} : AW d 118 75 [.ref v, x1, x2, x3, x4, x5] (st) σ ρ g τ Q = AW d 118 76 [.ref v, x1, x2, x3, x4, x5] (.ref v :: st) σ ρ g τ Q := aw_lc m118 d118_75 rfl rfl rfl
theorem d118_76 : decode cX11_least 76 = .ok (.getfield 67, 3) := by decide +kernel
theorem s118_76 {d : Nat} {st : List Value} {σ : am_I} {ρ : am_R} {g : am_J} {τ : am_T} {Q : am_Q} {x0 x1 x2 x3 x4 x5 : Value} {a : Nat} (ht : τ.1 a = 11) : AW d 118 76 [x0, x1, x2, x3, x4, x5] (.ref a :: st) σ ρ g τ Q = AW d 118 79 [x0, x1, x2, x3, x4, x5] (va_rf (ρ a 9) :: st) σ ρ g τ Q := aw_gr m118 d118_76 rfl rfl rfl ht
theorem d118_79 : decode cX11_least 79 = .ok (.iload 5, 2) := by decide +kernel
theorem s118_79 {d : Nat} {st : List Value} {σ : am_I} {ρ : am_R} {g : am_J} {τ : am_T} {Q : am_Q} {x0 x1 x2 x3 x4 : Value} {v : Int32} : AW d 118 79 [x0, x1, x2, x3, x4, .int v] (st) σ ρ g τ Q = AW d 118 81 [x0, x1, x2, x3, x4, .int v] (.int v :: st) σ ρ g τ Q := aw_lc m118 d118_79 rfl rfl rfl
theorem d118_81 : decode cX11_least 81 = .ok (.iaload, 1) := by decide +kernel
theorem s118_81 {d : Nat} {st : List Value} {σ : am_I} {ρ : am_R} {g : am_J} {τ : am_T} {Q : am_Q} {x0 x1 x2 x3 x4 x5 : Value} {a : Nat} {j : Int32} (ht : τ.1 a = 15) (hj : am_inb j (τ.2.1 a) = true) : AW d 118 81 [x0, x1, x2, x3, x4, x5] (.int j :: .ref a :: st) σ ρ g τ Q = AW d 118 82 [x0, x1, x2, x3, x4, x5] (.int (σ a j.toNatClampNeg) :: st) σ ρ g τ Q := aw_ial m118 d118_81 rfl ht hj
theorem d118_82 : decode cX11_least 82 = .ok (.aload_n 0, 1) := by decide +kernel
theorem s118_82 {d : Nat} {st : List Value} {σ : am_I} {ρ : am_R} {g : am_J} {τ : am_T} {Q : am_Q} {x1 x2 x3 x4 x5 : Value} {v : Nat} : AW d 118 82 [.ref v, x1, x2, x3, x4, x5] (st) σ ρ g τ Q = AW d 118 83 [.ref v, x1, x2, x3, x4, x5] (.ref v :: st) σ ρ g τ Q := aw_lc m118 d118_82 rfl rfl rfl
theorem d118_83 : decode cX11_least 83 = .ok (.getfield 67, 3) := by decide +kernel
theorem s118_83 {d : Nat} {st : List Value} {σ : am_I} {ρ : am_R} {g : am_J} {τ : am_T} {Q : am_Q} {x0 x1 x2 x3 x4 x5 : Value} {a : Nat} (ht : τ.1 a = 11) : AW d 118 83 [x0, x1, x2, x3, x4, x5] (.ref a :: st) σ ρ g τ Q = AW d 118 86 [x0, x1, x2, x3, x4, x5] (va_rf (ρ a 9) :: st) σ ρ g τ Q := aw_gr m118 d118_83 rfl rfl rfl ht
theorem d118_86 : decode cX11_least 86 = .ok (.iload 4, 2) := by decide +kernel
theorem s118_86 {d : Nat} {st : List Value} {σ : am_I} {ρ : am_R} {g : am_J} {τ : am_T} {Q : am_Q} {x0 x1 x2 x3 x5 : Value} {v : Int32} : AW d 118 86 [x0, x1, x2, x3, .int v, x5] (st) σ ρ g τ Q = AW d 118 88 [x0, x1, x2, x3, .int v, x5] (.int v :: st) σ ρ g τ Q := aw_lc m118 d118_86 rfl rfl rfl
theorem d118_88 : decode cX11_least 88 = .ok (.iaload, 1) := by decide +kernel
theorem s118_88 {d : Nat} {st : List Value} {σ : am_I} {ρ : am_R} {g : am_J} {τ : am_T} {Q : am_Q} {x0 x1 x2 x3 x4 x5 : Value} {a : Nat} {j : Int32} (ht : τ.1 a = 15) (hj : am_inb j (τ.2.1 a) = true) : AW d 118 88 [x0, x1, x2, x3, x4, x5] (.int j :: .ref a :: st) σ ρ g τ Q = AW d 118 89 [x0, x1, x2, x3, x4, x5] (.int (σ a j.toNatClampNeg) :: st) σ ρ g τ Q := aw_ial m118 d118_88 rfl ht hj
theorem d118_89 : decode cX11_least 89 = .ok (.if_icmp .ge 7, 3) := by decide +kernel
theorem s118_89 {d : Nat} {st : List Value} {σ : am_I} {ρ : am_R} {g : am_J} {τ : am_T} {Q : am_Q} {x0 x1 x2 x3 x4 x5 : Value} {v w : Int32} : AW d 118 89 [x0, x1, x2, x3, x4, x5] (.int w :: .int v :: st) σ ρ g τ Q = if w ≤ v then AW d 118 96 [x0, x1, x2, x3, x4, x5] (st) σ ρ g τ Q else AW d 118 92 [x0, x1, x2, x3, x4, x5] (st) σ ρ g τ Q := aw_br m118 d118_89 rfl rfl rfl
theorem d118_92 : decode cX11_least 92 = .ok (.iload 5, 2) := by decide +kernel
theorem s118_92 {d : Nat} {st : List Value} {σ : am_I} {ρ : am_R} {g : am_J} {τ : am_T} {Q : am_Q} {x0 x1 x2 x3 x4 : Value} {v : Int32} : AW d 118 92 [x0, x1, x2, x3, x4, .int v] (st) σ ρ g τ Q = AW d 118 94 [x0, x1, x2, x3, x4, .int v] (.int v :: st) σ ρ g τ Q := aw_lc m118 d118_92 rfl rfl rfl
theorem d118_94 : decode cX11_least 94 = .ok (.istore 4, 2) := by decide +kernel
theorem s118_94 {d : Nat} {st : List Value} {σ : am_I} {ρ : am_R} {g : am_J} {τ : am_T} {Q : am_Q} {x0 x1 x2 x4 x5 : Value} {v : Int32} {u : Int32} : AW d 118 94 [x0, x1, x2, .int u, x4, x5] (.int v :: st) σ ρ g τ Q = AW d 118 96 [x0, x1, x2, .int u, .int v, x5] (st) σ ρ g τ Q := aw_lc m118 d118_94 rfl rfl rfl
theorem d118_96 : decode cX11_least 96 = .ok (.iinc 5 1, 3) := by decide +kernel
theorem s118_96 {d : Nat} {st : List Value} {σ : am_I} {ρ : am_R} {g : am_J} {τ : am_T} {Q : am_Q} {x0 x1 x2 x3 : Value} {v : Int32} {u : Int32} : AW d 118 96 [x0, x1, x2, x3, .int u, .int v] (st) σ ρ g τ Q = AW d 118 99 [x0, x1, x2, x3, .int u, .int (v + 1)] (st) σ ρ g τ Q := aw_lc m118 d118_96 rfl rfl rfl
theorem d118_99 : decode cX11_least 99 = .ok (.goto (-30), 3) := by decide +kernel
theorem s118_99 {d : Nat} {st : List Value} {σ : am_I} {ρ : am_R} {g : am_J} {τ : am_T} {Q : am_Q} {x0 x1 x2 x3 x4 x5 : Value} : AW d 118 99 [x0, x1, x2, x3, x4, x5] (st) σ ρ g τ Q = AW d 118 69 [x0, x1, x2, x3, x4, x5] (st) σ ρ g τ Q := aw_lc m118 d118_99 rfl rfl rfl
theorem d118_102 : decode cX11_least 102 = .ok (.iload_n 3, 1) := by decide +kernel
theorem s118_102 {d : Nat} {st : List Value} {σ : am_I} {ρ : am_R} {g : am_J} {τ : am_T} {Q : am_Q} {x0 x1 x2 x4 x5 : Value} {v : Int32} : AW d 118 102 [x0, x1, x2, .int v, x4, x5] (st) σ ρ g τ Q = AW d 118 103 [x0, x1, x2, .int v, x4, x5] (.int v :: st) σ ρ g τ Q := aw_lc m118 d118_102 rfl rfl rfl
theorem d118_103 : decode cX11_least 103 = .ok (.ifCond .ge 13, 3) := by decide +kernel
theorem s118_103 {d : Nat} {st : List Value} {σ : am_I} {ρ : am_R} {g : am_J} {τ : am_T} {Q : am_Q} {x0 x1 x2 x3 x4 x5 : Value} {v : Int32} : AW d 118 103 [x0, x1, x2, x3, x4, x5] (.int v :: st) σ ρ g τ Q = if 0 ≤ v then AW d 118 116 [x0, x1, x2, x3, x4, x5] (st) σ ρ g τ Q else AW d 118 106 [x0, x1, x2, x3, x4, x5] (st) σ ρ g τ Q := aw_br m118 d118_103 rfl rfl rfl
theorem d118_106 : decode cX11_least 106 = .ok (.aload_n 0, 1) := by decide +kernel
theorem s118_106 {d : Nat} {st : List Value} {σ : am_I} {ρ : am_R} {g : am_J} {τ : am_T} {Q : am_Q} {x1 x2 x3 x4 x5 : Value} {v : Nat} : AW d 118 106 [.ref v, x1, x2, x3, x4, x5] (st) σ ρ g τ Q = AW d 118 107 [.ref v, x1, x2, x3, x4, x5] (.ref v :: st) σ ρ g τ Q := aw_lc m118 d118_106 rfl rfl rfl
theorem d118_107 : decode cX11_least 107 = .ok (.getfield 67, 3) := by decide +kernel
theorem s118_107 {d : Nat} {st : List Value} {σ : am_I} {ρ : am_R} {g : am_J} {τ : am_T} {Q : am_Q} {x0 x1 x2 x3 x4 x5 : Value} {a : Nat} (ht : τ.1 a = 11) : AW d 118 107 [x0, x1, x2, x3, x4, x5] (.ref a :: st) σ ρ g τ Q = AW d 118 110 [x0, x1, x2, x3, x4, x5] (va_rf (ρ a 9) :: st) σ ρ g τ Q := aw_gr m118 d118_107 rfl rfl rfl ht
theorem d118_110 : decode cX11_least 110 = .ok (.iload 4, 2) := by decide +kernel
theorem s118_110 {d : Nat} {st : List Value} {σ : am_I} {ρ : am_R} {g : am_J} {τ : am_T} {Q : am_Q} {x0 x1 x2 x3 x5 : Value} {v : Int32} : AW d 118 110 [x0, x1, x2, x3, .int v, x5] (st) σ ρ g τ Q = AW d 118 112 [x0, x1, x2, x3, .int v, x5] (.int v :: st) σ ρ g τ Q := aw_lc m118 d118_110 rfl rfl rfl
theorem d118_112 : decode cX11_least 112 = .ok (.iaload, 1) := by decide +kernel
theorem s118_112 {d : Nat} {st : List Value} {σ : am_I} {ρ : am_R} {g : am_J} {τ : am_T} {Q : am_Q} {x0 x1 x2 x3 x4 x5 : Value} {a : Nat} {j : Int32} (ht : τ.1 a = 15) (hj : am_inb j (τ.2.1 a) = true) : AW d 118 112 [x0, x1, x2, x3, x4, x5] (.int j :: .ref a :: st) σ ρ g τ Q = AW d 118 113 [x0, x1, x2, x3, x4, x5] (.int (σ a j.toNatClampNeg) :: st) σ ρ g τ Q := aw_ial m118 d118_112 rfl ht hj
theorem d118_113 : decode cX11_least 113 = .ok (.goto 11, 3) := by decide +kernel
theorem s118_113 {d : Nat} {st : List Value} {σ : am_I} {ρ : am_R} {g : am_J} {τ : am_T} {Q : am_Q} {x0 x1 x2 x3 x4 x5 : Value} : AW d 118 113 [x0, x1, x2, x3, x4, x5] (st) σ ρ g τ Q = AW d 118 124 [x0, x1, x2, x3, x4, x5] (st) σ ρ g τ Q := aw_lc m118 d118_113 rfl rfl rfl
theorem d118_116 : decode cX11_least 116 = .ok (.aload_n 0, 1) := by decide +kernel
theorem s118_116 {d : Nat} {st : List Value} {σ : am_I} {ρ : am_R} {g : am_J} {τ : am_T} {Q : am_Q} {x1 x2 x3 x4 x5 : Value} {v : Nat} : AW d 118 116 [.ref v, x1, x2, x3, x4, x5] (st) σ ρ g τ Q = AW d 118 117 [.ref v, x1, x2, x3, x4, x5] (.ref v :: st) σ ρ g τ Q := aw_lc m118 d118_116 rfl rfl rfl
theorem d118_117 : decode cX11_least 117 = .ok (.iload_n 3, 1) := by decide +kernel
theorem s118_117 {d : Nat} {st : List Value} {σ : am_I} {ρ : am_R} {g : am_J} {τ : am_T} {Q : am_Q} {x0 x1 x2 x4 x5 : Value} {v : Int32} : AW d 118 117 [x0, x1, x2, .int v, x4, x5] (st) σ ρ g τ Q = AW d 118 118 [x0, x1, x2, .int v, x4, x5] (.int v :: st) σ ρ g τ Q := aw_lc m118 d118_117 rfl rfl rfl
theorem d118_118 : decode cX11_least 118 = .ok (.iload 4, 2) := by decide +kernel
theorem s118_118 {d : Nat} {st : List Value} {σ : am_I} {ρ : am_R} {g : am_J} {τ : am_T} {Q : am_Q} {x0 x1 x2 x3 x5 : Value} {v : Int32} : AW d 118 118 [x0, x1, x2, x3, .int v, x5] (st) σ ρ g τ Q = AW d 118 120 [x0, x1, x2, x3, .int v, x5] (.int v :: st) σ ρ g τ Q := aw_lc m118 d118_118 rfl rfl rfl
theorem d118_120 : decode cX11_least 120 = .ok (.iload_n 2, 1) := by decide +kernel
theorem s118_120 {d : Nat} {st : List Value} {σ : am_I} {ρ : am_R} {g : am_J} {τ : am_T} {Q : am_Q} {x0 x1 x3 x4 x5 : Value} {v : Int32} : AW d 118 120 [x0, x1, .int v, x3, x4, x5] (st) σ ρ g τ Q = AW d 118 121 [x0, x1, .int v, x3, x4, x5] (.int v :: st) σ ρ g τ Q := aw_lc m118 d118_120 rfl rfl rfl
theorem d118_121 : decode cX11_least 121 = .ok (.invokevirtual 162, 3) := by decide +kernel
theorem s118_121 {d : Nat} {st : List Value} {σ : am_I} {ρ : am_R} {g : am_J} {τ : am_T} {Q : am_Q} {x0 x1 x2 x3 x4 x5 : Value} {p0 : Nat} {p1 : Int32} {p2 : Int32} {p3 : Int32} (ht : τ.1 p0 = 11) (hs : st.length ≤ 4) : AW (d + 1) 118 121 [x0, x1, x2, x3, x4, x5] (.int p3 :: .int p2 :: .int p1 :: .ref p0 :: st) σ ρ g τ Q = AW d 120 0 [.ref p0, .int p1, .int p2, .int p3, am_jk, am_jk, am_jk] [] σ ρ g τ (fun r9 σ ρ g τ => AW (d + 1) 118 124 [x0, x1, x2, x3, x4, x5] (r9.toList ++ st) σ ρ g τ Q) := aw_cv m118 d118_121 rfl m120 rfl rfl (by decide) en120 ok120 rfl ht hs
theorem d118_124 : decode cX11_least 124 = .ok (.ireturn, 1) := by decide +kernel
theorem s118_124 {d : Nat} {σ : am_I} {ρ : am_R} {g : am_J} {τ : am_T} {Q : am_Q} {x0 x1 x2 x3 x4 x5 : Value} {v : Int32} : AW d 118 124 [x0, x1, x2, x3, x4, x5] ([.int v]) σ ρ g τ Q = Q (some (.int v)) σ ρ g τ := aw_ri m118 d118_124 rfl
theorem d119_0 : decode cX11_tellLeastFrom 0 = .ok (.iload_n 1, 1) := by decide +kernel
theorem s119_0 {d : Nat} {st : List Value} {σ : am_I} {ρ : am_R} {g : am_J} {τ : am_T} {Q : am_Q} {x0 x2 x3 x4 x5 x6 x7 : Value} {v : Int32} : AW d 119 0 [x0, .int v, x2, x3, x4, x5, x6, x7] (st) σ ρ g τ Q = AW d 119 1 [x0, .int v, x2, x3, x4, x5, x6, x7] (.int v :: st) σ ρ g τ Q := aw_lc m119 d119_0 rfl rfl rfl
theorem d119_1 : decode cX11_tellLeastFrom 1 = .ok (.bipush 41, 2) := by decide +kernel
theorem s119_1 {d : Nat} {st : List Value} {σ : am_I} {ρ : am_R} {g : am_J} {τ : am_T} {Q : am_Q} {x0 x1 x2 x3 x4 x5 x6 x7 : Value} : AW d 119 1 [x0, x1, x2, x3, x4, x5, x6, x7] (st) σ ρ g τ Q = AW d 119 3 [x0, x1, x2, x3, x4, x5, x6, x7] (.int 41 :: st) σ ρ g τ Q := aw_lc m119 d119_1 rfl rfl rfl
theorem d119_3 : decode cX11_tellLeastFrom 3 = .ok (.imul, 1) := by decide +kernel
theorem s119_3 {d : Nat} {st : List Value} {σ : am_I} {ρ : am_R} {g : am_J} {τ : am_T} {Q : am_Q} {x0 x1 x2 x3 x4 x5 x6 x7 : Value} {v w : Int32} : AW d 119 3 [x0, x1, x2, x3, x4, x5, x6, x7] (.int w :: .int v :: st) σ ρ g τ Q = AW d 119 4 [x0, x1, x2, x3, x4, x5, x6, x7] (.int (v * w) :: st) σ ρ g τ Q := aw_lc m119 d119_3 rfl rfl rfl
theorem d119_4 : decode cX11_tellLeastFrom 4 = .ok (.istore_n 3, 1) := by decide +kernel
theorem s119_4 {d : Nat} {st : List Value} {σ : am_I} {ρ : am_R} {g : am_J} {τ : am_T} {Q : am_Q} {x0 x1 x3 x4 x5 x6 x7 : Value} {v : Int32} {u : Int32} : AW d 119 4 [x0, x1, .int u, x3, x4, x5, x6, x7] (.int v :: st) σ ρ g τ Q = AW d 119 5 [x0, x1, .int u, .int v, x4, x5, x6, x7] (st) σ ρ g τ Q := aw_lc m119 d119_4 rfl rfl rfl
theorem d119_5 : decode cX11_tellLeastFrom 5 = .ok (.iconst 0, 1) := by decide +kernel
theorem s119_5 {d : Nat} {st : List Value} {σ : am_I} {ρ : am_R} {g : am_J} {τ : am_T} {Q : am_Q} {x0 x1 x2 x3 x4 x5 x6 x7 : Value} : AW d 119 5 [x0, x1, x2, x3, x4, x5, x6, x7] (st) σ ρ g τ Q = AW d 119 6 [x0, x1, x2, x3, x4, x5, x6, x7] (.int 0 :: st) σ ρ g τ Q := aw_lc m119 d119_5 rfl rfl rfl
theorem d119_6 : decode cX11_tellLeastFrom 6 = .ok (.istore 4, 2) := by decide +kernel
theorem s119_6 {d : Nat} {st : List Value} {σ : am_I} {ρ : am_R} {g : am_J} {τ : am_T} {Q : am_Q} {x0 x1 x2 x4 x5 x6 x7 : Value} {v : Int32} {u : Int32} : AW d 119 6 [x0, x1, x2, .int u, x4, x5, x6, x7] (.int v :: st) σ ρ g τ Q = AW d 119 8 [x0, x1, x2, .int u, .int v, x5, x6, x7] (st) σ ρ g τ Q := aw_lc m119 d119_6 rfl rfl rfl
theorem d119_8 : decode cX11_tellLeastFrom 8 = .ok (.iload 4, 2) := by decide +kernel
theorem s119_8 {d : Nat} {st : List Value} {σ : am_I} {ρ : am_R} {g : am_J} {τ : am_T} {Q : am_Q} {x0 x1 x2 x3 x5 x6 x7 : Value} {v : Int32} : AW d 119 8 [x0, x1, x2, x3, .int v, x5, x6, x7] (st) σ ρ g τ Q = AW d 119 10 [x0, x1, x2, x3, .int v, x5, x6, x7] (.int v :: st) σ ρ g τ Q := aw_lc m119 d119_8 rfl rfl rfl
theorem d119_10 : decode cX11_tellLeastFrom 10 = .ok (.bipush 40, 2) := by decide +kernel
theorem s119_10 {d : Nat} {st : List Value} {σ : am_I} {ρ : am_R} {g : am_J} {τ : am_T} {Q : am_Q} {x0 x1 x2 x3 x4 x5 x6 x7 : Value} : AW d 119 10 [x0, x1, x2, x3, x4, x5, x6, x7] (st) σ ρ g τ Q = AW d 119 12 [x0, x1, x2, x3, x4, x5, x6, x7] (.int 40 :: st) σ ρ g τ Q := aw_lc m119 d119_10 rfl rfl rfl
theorem d119_12 : decode cX11_tellLeastFrom 12 = .ok (.if_icmp .gt 20, 3) := by decide +kernel
theorem s119_12 {d : Nat} {st : List Value} {σ : am_I} {ρ : am_R} {g : am_J} {τ : am_T} {Q : am_Q} {x0 x1 x2 x3 x4 x5 x6 x7 : Value} {v w : Int32} : AW d 119 12 [x0, x1, x2, x3, x4, x5, x6, x7] (.int w :: .int v :: st) σ ρ g τ Q = if w < v then AW d 119 32 [x0, x1, x2, x3, x4, x5, x6, x7] (st) σ ρ g τ Q else AW d 119 15 [x0, x1, x2, x3, x4, x5, x6, x7] (st) σ ρ g τ Q := aw_br m119 d119_12 rfl rfl rfl
theorem d119_15 : decode cX11_tellLeastFrom 15 = .ok (.aload_n 0, 1) := by decide +kernel
theorem s119_15 {d : Nat} {st : List Value} {σ : am_I} {ρ : am_R} {g : am_J} {τ : am_T} {Q : am_Q} {x1 x2 x3 x4 x5 x6 x7 : Value} {v : Nat} : AW d 119 15 [.ref v, x1, x2, x3, x4, x5, x6, x7] (st) σ ρ g τ Q = AW d 119 16 [.ref v, x1, x2, x3, x4, x5, x6, x7] (.ref v :: st) σ ρ g τ Q := aw_lc m119 d119_15 rfl rfl rfl
theorem d119_16 : decode cX11_tellLeastFrom 16 = .ok (.getfield 67, 3) := by decide +kernel
theorem s119_16 {d : Nat} {st : List Value} {σ : am_I} {ρ : am_R} {g : am_J} {τ : am_T} {Q : am_Q} {x0 x1 x2 x3 x4 x5 x6 x7 : Value} {a : Nat} (ht : τ.1 a = 11) : AW d 119 16 [x0, x1, x2, x3, x4, x5, x6, x7] (.ref a :: st) σ ρ g τ Q = AW d 119 19 [x0, x1, x2, x3, x4, x5, x6, x7] (va_rf (ρ a 9) :: st) σ ρ g τ Q := aw_gr m119 d119_16 rfl rfl rfl ht
theorem d119_19 : decode cX11_tellLeastFrom 19 = .ok (.iload_n 3, 1) := by decide +kernel
theorem s119_19 {d : Nat} {st : List Value} {σ : am_I} {ρ : am_R} {g : am_J} {τ : am_T} {Q : am_Q} {x0 x1 x2 x4 x5 x6 x7 : Value} {v : Int32} : AW d 119 19 [x0, x1, x2, .int v, x4, x5, x6, x7] (st) σ ρ g τ Q = AW d 119 20 [x0, x1, x2, .int v, x4, x5, x6, x7] (.int v :: st) σ ρ g τ Q := aw_lc m119 d119_19 rfl rfl rfl
theorem d119_20 : decode cX11_tellLeastFrom 20 = .ok (.iload 4, 2) := by decide +kernel
theorem s119_20 {d : Nat} {st : List Value} {σ : am_I} {ρ : am_R} {g : am_J} {τ : am_T} {Q : am_Q} {x0 x1 x2 x3 x5 x6 x7 : Value} {v : Int32} : AW d 119 20 [x0, x1, x2, x3, .int v, x5, x6, x7] (st) σ ρ g τ Q = AW d 119 22 [x0, x1, x2, x3, .int v, x5, x6, x7] (.int v :: st) σ ρ g τ Q := aw_lc m119 d119_20 rfl rfl rfl
theorem d119_22 : decode cX11_tellLeastFrom 22 = .ok (.iadd, 1) := by decide +kernel
theorem s119_22 {d : Nat} {st : List Value} {σ : am_I} {ρ : am_R} {g : am_J} {τ : am_T} {Q : am_Q} {x0 x1 x2 x3 x4 x5 x6 x7 : Value} {v w : Int32} : AW d 119 22 [x0, x1, x2, x3, x4, x5, x6, x7] (.int w :: .int v :: st) σ ρ g τ Q = AW d 119 23 [x0, x1, x2, x3, x4, x5, x6, x7] (.int (v + w) :: st) σ ρ g τ Q := aw_lc m119 d119_22 rfl rfl rfl
theorem d119_23 : decode cX11_tellLeastFrom 23 = .ok (.ldc 165, 2) := by decide +kernel
theorem s119_23 {d : Nat} {st : List Value} {σ : am_I} {ρ : am_R} {g : am_J} {τ : am_T} {Q : am_Q} {x0 x1 x2 x3 x4 x5 x6 x7 : Value} : AW d 119 23 [x0, x1, x2, x3, x4, x5, x6, x7] (st) σ ρ g τ Q = AW d 119 25 [x0, x1, x2, x3, x4, x5, x6, x7] (.int 1000000 :: st) σ ρ g τ Q := aw_ldi m119 d119_23 rfl rfl
theorem d119_25 : decode cX11_tellLeastFrom 25 = .ok (.iastore, 1) := by decide +kernel
theorem s119_25 {d : Nat} {st : List Value} {σ : am_I} {ρ : am_R} {g : am_J} {τ : am_T} {Q : am_Q} {x0 x1 x2 x3 x4 x5 x6 x7 : Value} {a : Nat} {j v : Int32} (ht : τ.1 a = 15) (ha : a < am_BG) (hj : am_inb j (τ.2.1 a) = true) : AW d 119 25 [x0, x1, x2, x3, x4, x5, x6, x7] (.int v :: .int j :: .ref a :: st) σ ρ g τ Q = AW d 119 26 [x0, x1, x2, x3, x4, x5, x6, x7] (st) (am_u σ a j.toNatClampNeg v) ρ g τ Q := aw_ias m119 d119_25 rfl ht ha hj
theorem d119_26 : decode cX11_tellLeastFrom 26 = .ok (.iinc 4 1, 3) := by decide +kernel
theorem s119_26 {d : Nat} {st : List Value} {σ : am_I} {ρ : am_R} {g : am_J} {τ : am_T} {Q : am_Q} {x0 x1 x2 x5 x6 x7 : Value} {v : Int32} {u : Int32} : AW d 119 26 [x0, x1, x2, .int u, .int v, x5, x6, x7] (st) σ ρ g τ Q = AW d 119 29 [x0, x1, x2, .int u, .int (v + 1), x5, x6, x7] (st) σ ρ g τ Q := aw_lc m119 d119_26 rfl rfl rfl
theorem d119_29 : decode cX11_tellLeastFrom 29 = .ok (.goto (-21), 3) := by decide +kernel
theorem s119_29 {d : Nat} {st : List Value} {σ : am_I} {ρ : am_R} {g : am_J} {τ : am_T} {Q : am_Q} {x0 x1 x2 x3 x4 x5 x6 x7 : Value} : AW d 119 29 [x0, x1, x2, x3, x4, x5, x6, x7] (st) σ ρ g τ Q = AW d 119 8 [x0, x1, x2, x3, x4, x5, x6, x7] (st) σ ρ g τ Q := aw_lc m119 d119_29 rfl rfl rfl
theorem d119_32 : decode cX11_tellLeastFrom 32 = .ok (.iload_n 1, 1) := by decide +kernel
theorem s119_32 {d : Nat} {st : List Value} {σ : am_I} {ρ : am_R} {g : am_J} {τ : am_T} {Q : am_Q} {x0 x2 x3 x4 x5 x6 x7 : Value} {v : Int32} : AW d 119 32 [x0, .int v, x2, x3, x4, x5, x6, x7] (st) σ ρ g τ Q = AW d 119 33 [x0, .int v, x2, x3, x4, x5, x6, x7] (.int v :: st) σ ρ g τ Q := aw_lc m119 d119_32 rfl rfl rfl
theorem d119_33 : decode cX11_tellLeastFrom 33 = .ok (.aload_n 0, 1) := by decide +kernel
theorem s119_33 {d : Nat} {st : List Value} {σ : am_I} {ρ : am_R} {g : am_J} {τ : am_T} {Q : am_Q} {x1 x2 x3 x4 x5 x6 x7 : Value} {v : Nat} : AW d 119 33 [.ref v, x1, x2, x3, x4, x5, x6, x7] (st) σ ρ g τ Q = AW d 119 34 [.ref v, x1, x2, x3, x4, x5, x6, x7] (.ref v :: st) σ ρ g τ Q := aw_lc m119 d119_33 rfl rfl rfl
theorem d119_34 : decode cX11_tellLeastFrom 34 = .ok (.getfield 10, 3) := by decide +kernel
theorem s119_34 {d : Nat} {st : List Value} {σ : am_I} {ρ : am_R} {g : am_J} {τ : am_T} {Q : am_Q} {x0 x1 x2 x3 x4 x5 x6 x7 : Value} {a : Nat} (ht : τ.1 a = 11) : AW d 119 34 [x0, x1, x2, x3, x4, x5, x6, x7] (.ref a :: st) σ ρ g τ Q = AW d 119 37 [x0, x1, x2, x3, x4, x5, x6, x7] (va_rf (ρ a 0) :: st) σ ρ g τ Q := aw_gr m119 d119_34 rfl rfl rfl ht
theorem d119_37 : decode cX11_tellLeastFrom 37 = .ok (.getfield 110, 3) := by decide +kernel
theorem s119_37 {d : Nat} {st : List Value} {σ : am_I} {ρ : am_R} {g : am_J} {τ : am_T} {Q : am_Q} {x0 x1 x2 x3 x4 x5 x6 x7 : Value} {a : Nat} (ht : τ.1 a = 3) : AW d 119 37 [x0, x1, x2, x3, x4, x5, x6, x7] (.ref a :: st) σ ρ g τ Q = AW d 119 40 [x0, x1, x2, x3, x4, x5, x6, x7] (.int (σ a 6) :: st) σ ρ g τ Q := aw_gi m119 d119_37 rfl rfl rfl ht
theorem d119_40 : decode cX11_tellLeastFrom 40 = .ok (.if_icmp .lt 11, 3) := by decide +kernel
theorem s119_40 {d : Nat} {st : List Value} {σ : am_I} {ρ : am_R} {g : am_J} {τ : am_T} {Q : am_Q} {x0 x1 x2 x3 x4 x5 x6 x7 : Value} {v w : Int32} : AW d 119 40 [x0, x1, x2, x3, x4, x5, x6, x7] (.int w :: .int v :: st) σ ρ g τ Q = if v < w then AW d 119 51 [x0, x1, x2, x3, x4, x5, x6, x7] (st) σ ρ g τ Q else AW d 119 43 [x0, x1, x2, x3, x4, x5, x6, x7] (st) σ ρ g τ Q := aw_br m119 d119_40 rfl rfl rfl
theorem d119_43 : decode cX11_tellLeastFrom 43 = .ok (.aload_n 0, 1) := by decide +kernel
theorem s119_43 {d : Nat} {st : List Value} {σ : am_I} {ρ : am_R} {g : am_J} {τ : am_T} {Q : am_Q} {x1 x2 x3 x4 x5 x6 x7 : Value} {v : Nat} : AW d 119 43 [.ref v, x1, x2, x3, x4, x5, x6, x7] (st) σ ρ g τ Q = AW d 119 44 [.ref v, x1, x2, x3, x4, x5, x6, x7] (.ref v :: st) σ ρ g τ Q := aw_lc m119 d119_43 rfl rfl rfl
theorem d119_44 : decode cX11_tellLeastFrom 44 = .ok (.getfield 67, 3) := by decide +kernel
theorem s119_44 {d : Nat} {st : List Value} {σ : am_I} {ρ : am_R} {g : am_J} {τ : am_T} {Q : am_Q} {x0 x1 x2 x3 x4 x5 x6 x7 : Value} {a : Nat} (ht : τ.1 a = 11) : AW d 119 44 [x0, x1, x2, x3, x4, x5, x6, x7] (.ref a :: st) σ ρ g τ Q = AW d 119 47 [x0, x1, x2, x3, x4, x5, x6, x7] (va_rf (ρ a 9) :: st) σ ρ g τ Q := aw_gr m119 d119_44 rfl rfl rfl ht
theorem d119_47 : decode cX11_tellLeastFrom 47 = .ok (.iload_n 3, 1) := by decide +kernel
theorem s119_47 {d : Nat} {st : List Value} {σ : am_I} {ρ : am_R} {g : am_J} {τ : am_T} {Q : am_Q} {x0 x1 x2 x4 x5 x6 x7 : Value} {v : Int32} : AW d 119 47 [x0, x1, x2, .int v, x4, x5, x6, x7] (st) σ ρ g τ Q = AW d 119 48 [x0, x1, x2, .int v, x4, x5, x6, x7] (.int v :: st) σ ρ g τ Q := aw_lc m119 d119_47 rfl rfl rfl
theorem d119_48 : decode cX11_tellLeastFrom 48 = .ok (.iconst 0, 1) := by decide +kernel
theorem s119_48 {d : Nat} {st : List Value} {σ : am_I} {ρ : am_R} {g : am_J} {τ : am_T} {Q : am_Q} {x0 x1 x2 x3 x4 x5 x6 x7 : Value} : AW d 119 48 [x0, x1, x2, x3, x4, x5, x6, x7] (st) σ ρ g τ Q = AW d 119 49 [x0, x1, x2, x3, x4, x5, x6, x7] (.int 0 :: st) σ ρ g τ Q := aw_lc m119 d119_48 rfl rfl rfl
theorem d119_49 : decode cX11_tellLeastFrom 49 = .ok (.iastore, 1) := by decide +kernel
theorem s119_49 {d : Nat} {st : List Value} {σ : am_I} {ρ : am_R} {g : am_J} {τ : am_T} {Q : am_Q} {x0 x1 x2 x3 x4 x5 x6 x7 : Value} {a : Nat} {j v : Int32} (ht : τ.1 a = 15) (ha : a < am_BG) (hj : am_inb j (τ.2.1 a) = true) : AW d 119 49 [x0, x1, x2, x3, x4, x5, x6, x7] (.int v :: .int j :: .ref a :: st) σ ρ g τ Q = AW d 119 50 [x0, x1, x2, x3, x4, x5, x6, x7] (st) (am_u σ a j.toNatClampNeg v) ρ g τ Q := aw_ias m119 d119_49 rfl ht ha hj
theorem d119_50 : decode cX11_tellLeastFrom 50 = .ok (.return_, 1) := by decide +kernel
theorem s119_50 {d : Nat} {σ : am_I} {ρ : am_R} {g : am_J} {τ : am_T} {Q : am_Q} {x0 x1 x2 x3 x4 x5 x6 x7 : Value} : AW d 119 50 [x0, x1, x2, x3, x4, x5, x6, x7] ([]) σ ρ g τ Q = Q none σ ρ g τ := aw_rv m119 d119_50 rfl
theorem d119_51 : decode cX11_tellLeastFrom 51 = .ok (.iconst 0, 1) := by decide +kernel
theorem s119_51 {d : Nat} {st : List Value} {σ : am_I} {ρ : am_R} {g : am_J} {τ : am_T} {Q : am_Q} {x0 x1 x2 x3 x4 x5 x6 x7 : Value} : AW d 119 51 [x0, x1, x2, x3, x4, x5, x6, x7] (st) σ ρ g τ Q = AW d 119 52 [x0, x1, x2, x3, x4, x5, x6, x7] (.int 0 :: st) σ ρ g τ Q := aw_lc m119 d119_51 rfl rfl rfl
theorem d119_52 : decode cX11_tellLeastFrom 52 = .ok (.istore 4, 2) := by decide +kernel
theorem s119_52 {d : Nat} {st : List Value} {σ : am_I} {ρ : am_R} {g : am_J} {τ : am_T} {Q : am_Q} {x0 x1 x2 x4 x5 x6 x7 : Value} {v : Int32} {u : Int32} : AW d 119 52 [x0, x1, x2, .int u, x4, x5, x6, x7] (.int v :: st) σ ρ g τ Q = AW d 119 54 [x0, x1, x2, .int u, .int v, x5, x6, x7] (st) σ ρ g τ Q := aw_lc m119 d119_52 rfl rfl rfl
theorem d119_54 : decode cX11_tellLeastFrom 54 = .ok (.iload 4, 2) := by decide +kernel
theorem s119_54 {d : Nat} {st : List Value} {σ : am_I} {ρ : am_R} {g : am_J} {τ : am_T} {Q : am_Q} {x0 x1 x2 x3 x5 x6 x7 : Value} {v : Int32} : AW d 119 54 [x0, x1, x2, x3, .int v, x5, x6, x7] (st) σ ρ g τ Q = AW d 119 56 [x0, x1, x2, x3, .int v, x5, x6, x7] (.int v :: st) σ ρ g τ Q := aw_lc m119 d119_54 rfl rfl rfl
theorem d119_56 : decode cX11_tellLeastFrom 56 = .ok (.bipush 9, 2) := by decide +kernel
theorem s119_56 {d : Nat} {st : List Value} {σ : am_I} {ρ : am_R} {g : am_J} {τ : am_T} {Q : am_Q} {x0 x1 x2 x3 x4 x5 x6 x7 : Value} : AW d 119 56 [x0, x1, x2, x3, x4, x5, x6, x7] (st) σ ρ g τ Q = AW d 119 58 [x0, x1, x2, x3, x4, x5, x6, x7] (.int 9 :: st) σ ρ g τ Q := aw_lc m119 d119_56 rfl rfl rfl
theorem d119_58 : decode cX11_tellLeastFrom 58 = .ok (.if_icmp .gt 84, 3) := by decide +kernel
theorem s119_58 {d : Nat} {st : List Value} {σ : am_I} {ρ : am_R} {g : am_J} {τ : am_T} {Q : am_Q} {x0 x1 x2 x3 x4 x5 x6 x7 : Value} {v w : Int32} : AW d 119 58 [x0, x1, x2, x3, x4, x5, x6, x7] (.int w :: .int v :: st) σ ρ g τ Q = if w < v then AW d 119 142 [x0, x1, x2, x3, x4, x5, x6, x7] (st) σ ρ g τ Q else AW d 119 61 [x0, x1, x2, x3, x4, x5, x6, x7] (st) σ ρ g τ Q := aw_br m119 d119_58 rfl rfl rfl
theorem d119_61 : decode cX11_tellLeastFrom 61 = .ok (.aload_n 0, 1) := by decide +kernel
theorem s119_61 {d : Nat} {st : List Value} {σ : am_I} {ρ : am_R} {g : am_J} {τ : am_T} {Q : am_Q} {x1 x2 x3 x4 x5 x6 x7 : Value} {v : Nat} : AW d 119 61 [.ref v, x1, x2, x3, x4, x5, x6, x7] (st) σ ρ g τ Q = AW d 119 62 [.ref v, x1, x2, x3, x4, x5, x6, x7] (.ref v :: st) σ ρ g τ Q := aw_lc m119 d119_61 rfl rfl rfl
theorem d119_62 : decode cX11_tellLeastFrom 62 = .ok (.getfield 10, 3) := by decide +kernel
theorem s119_62 {d : Nat} {st : List Value} {σ : am_I} {ρ : am_R} {g : am_J} {τ : am_T} {Q : am_Q} {x0 x1 x2 x3 x4 x5 x6 x7 : Value} {a : Nat} (ht : τ.1 a = 11) : AW d 119 62 [x0, x1, x2, x3, x4, x5, x6, x7] (.ref a :: st) σ ρ g τ Q = AW d 119 65 [x0, x1, x2, x3, x4, x5, x6, x7] (va_rf (ρ a 0) :: st) σ ρ g τ Q := aw_gr m119 d119_62 rfl rfl rfl ht
theorem d119_65 : decode cX11_tellLeastFrom 65 = .ok (.iload_n 1, 1) := by decide +kernel
theorem s119_65 {d : Nat} {st : List Value} {σ : am_I} {ρ : am_R} {g : am_J} {τ : am_T} {Q : am_Q} {x0 x2 x3 x4 x5 x6 x7 : Value} {v : Int32} : AW d 119 65 [x0, .int v, x2, x3, x4, x5, x6, x7] (st) σ ρ g τ Q = AW d 119 66 [x0, .int v, x2, x3, x4, x5, x6, x7] (.int v :: st) σ ρ g τ Q := aw_lc m119 d119_65 rfl rfl rfl
theorem d119_66 : decode cX11_tellLeastFrom 66 = .ok (.iload_n 2, 1) := by decide +kernel
theorem s119_66 {d : Nat} {st : List Value} {σ : am_I} {ρ : am_R} {g : am_J} {τ : am_T} {Q : am_Q} {x0 x1 x3 x4 x5 x6 x7 : Value} {v : Int32} : AW d 119 66 [x0, x1, .int v, x3, x4, x5, x6, x7] (st) σ ρ g τ Q = AW d 119 67 [x0, x1, .int v, x3, x4, x5, x6, x7] (.int v :: st) σ ρ g τ Q := aw_lc m119 d119_66 rfl rfl rfl
theorem d119_67 : decode cX11_tellLeastFrom 67 = .ok (.iload 4, 2) := by decide +kernel
theorem s119_67 {d : Nat} {st : List Value} {σ : am_I} {ρ : am_R} {g : am_J} {τ : am_T} {Q : am_Q} {x0 x1 x2 x3 x5 x6 x7 : Value} {v : Int32} : AW d 119 67 [x0, x1, x2, x3, .int v, x5, x6, x7] (st) σ ρ g τ Q = AW d 119 69 [x0, x1, x2, x3, .int v, x5, x6, x7] (.int v :: st) σ ρ g τ Q := aw_lc m119 d119_67 rfl rfl rfl
theorem d119_69 : decode cX11_tellLeastFrom 69 = .ok (.invokevirtual 166, 3) := by decide +kernel
theorem s119_69 {d : Nat} {st : List Value} {σ : am_I} {ρ : am_R} {g : am_J} {τ : am_T} {Q : am_Q} {x0 x1 x2 x3 x4 x5 x6 x7 : Value} {p0 : Nat} {p1 : Int32} {p2 : Int32} {p3 : Int32} (ht : τ.1 p0 = 3) (hs : st.length ≤ 4) : AW (d + 1) 119 69 [x0, x1, x2, x3, x4, x5, x6, x7] (.int p3 :: .int p2 :: .int p1 :: .ref p0 :: st) σ ρ g τ Q = AW d 30 0 [.ref p0, .int p1, .int p2, .int p3, am_jk, am_jk] [] σ ρ g τ (fun r9 σ ρ g τ => AW (d + 1) 119 72 [x0, x1, x2, x3, x4, x5, x6, x7] (r9.toList ++ st) σ ρ g τ Q) := aw_cv m119 d119_69 rfl m30 rfl rfl (by decide) en30 ok30 rfl ht hs
theorem d119_72 : decode cX11_tellLeastFrom 72 = .ok (.istore 5, 2) := by decide +kernel
theorem s119_72 {d : Nat} {st : List Value} {σ : am_I} {ρ : am_R} {g : am_J} {τ : am_T} {Q : am_Q} {x0 x1 x2 x3 x5 x6 x7 : Value} {v : Int32} {u : Int32} : AW d 119 72 [x0, x1, x2, x3, .int u, x5, x6, x7] (.int v :: st) σ ρ g τ Q = AW d 119 74 [x0, x1, x2, x3, .int u, .int v, x6, x7] (st) σ ρ g τ Q := aw_lc m119 d119_72 rfl rfl rfl
theorem d119_74 : decode cX11_tellLeastFrom 74 = .ok (.iload 4, 2) := by decide +kernel
theorem s119_74 {d : Nat} {st : List Value} {σ : am_I} {ρ : am_R} {g : am_J} {τ : am_T} {Q : am_Q} {x0 x1 x2 x3 x5 x6 x7 : Value} {v : Int32} : AW d 119 74 [x0, x1, x2, x3, .int v, x5, x6, x7] (st) σ ρ g τ Q = AW d 119 76 [x0, x1, x2, x3, .int v, x5, x6, x7] (.int v :: st) σ ρ g τ Q := aw_lc m119 d119_74 rfl rfl rfl
theorem d119_76 : decode cX11_tellLeastFrom 76 = .ok (.istore 6, 2) := by decide +kernel
theorem s119_76 {d : Nat} {st : List Value} {σ : am_I} {ρ : am_R} {g : am_J} {τ : am_T} {Q : am_Q} {x0 x1 x2 x3 x4 x6 x7 : Value} {v : Int32} {u : Int32} : AW d 119 76 [x0, x1, x2, x3, x4, .int u, x6, x7] (.int v :: st) σ ρ g τ Q = AW d 119 78 [x0, x1, x2, x3, x4, .int u, .int v, x7] (st) σ ρ g τ Q := aw_lc m119 d119_76 rfl rfl rfl
theorem d119_78 : decode cX11_tellLeastFrom 78 = .ok (.iload 6, 2) := by decide +kernel
theorem s119_78 {d : Nat} {st : List Value} {σ : am_I} {ρ : am_R} {g : am_J} {τ : am_T} {Q : am_Q} {x0 x1 x2 x3 x4 x5 x7 : Value} {v : Int32} : AW d 119 78 [x0, x1, x2, x3, x4, x5, .int v, x7] (st) σ ρ g τ Q = AW d 119 80 [x0, x1, x2, x3, x4, x5, .int v, x7] (.int v :: st) σ ρ g τ Q := aw_lc m119 d119_78 rfl rfl rfl
theorem d119_80 : decode cX11_tellLeastFrom 80 = .ok (.bipush 40, 2) := by decide +kernel
theorem s119_80 {d : Nat} {st : List Value} {σ : am_I} {ρ : am_R} {g : am_J} {τ : am_T} {Q : am_Q} {x0 x1 x2 x3 x4 x5 x6 x7 : Value} : AW d 119 80 [x0, x1, x2, x3, x4, x5, x6, x7] (st) σ ρ g τ Q = AW d 119 82 [x0, x1, x2, x3, x4, x5, x6, x7] (.int 40 :: st) σ ρ g τ Q := aw_lc m119 d119_80 rfl rfl rfl
theorem d119_82 : decode cX11_tellLeastFrom 82 = .ok (.if_icmp .gt 54, 3) := by decide +kernel
theorem s119_82 {d : Nat} {st : List Value} {σ : am_I} {ρ : am_R} {g : am_J} {τ : am_T} {Q : am_Q} {x0 x1 x2 x3 x4 x5 x6 x7 : Value} {v w : Int32} : AW d 119 82 [x0, x1, x2, x3, x4, x5, x6, x7] (.int w :: .int v :: st) σ ρ g τ Q = if w < v then AW d 119 136 [x0, x1, x2, x3, x4, x5, x6, x7] (st) σ ρ g τ Q else AW d 119 85 [x0, x1, x2, x3, x4, x5, x6, x7] (st) σ ρ g τ Q := aw_br m119 d119_82 rfl rfl rfl
theorem d119_85 : decode cX11_tellLeastFrom 85 = .ok (.aload_n 0, 1) := by decide +kernel
theorem s119_85 {d : Nat} {st : List Value} {σ : am_I} {ρ : am_R} {g : am_J} {τ : am_T} {Q : am_Q} {x1 x2 x3 x4 x5 x6 x7 : Value} {v : Nat} : AW d 119 85 [.ref v, x1, x2, x3, x4, x5, x6, x7] (st) σ ρ g τ Q = AW d 119 86 [.ref v, x1, x2, x3, x4, x5, x6, x7] (.ref v :: st) σ ρ g τ Q := aw_lc m119 d119_85 rfl rfl rfl
theorem d119_86 : decode cX11_tellLeastFrom 86 = .ok (.getfield 67, 3) := by decide +kernel
theorem s119_86 {d : Nat} {st : List Value} {σ : am_I} {ρ : am_R} {g : am_J} {τ : am_T} {Q : am_Q} {x0 x1 x2 x3 x4 x5 x6 x7 : Value} {a : Nat} (ht : τ.1 a = 11) : AW d 119 86 [x0, x1, x2, x3, x4, x5, x6, x7] (.ref a :: st) σ ρ g τ Q = AW d 119 89 [x0, x1, x2, x3, x4, x5, x6, x7] (va_rf (ρ a 9) :: st) σ ρ g τ Q := aw_gr m119 d119_86 rfl rfl rfl ht
theorem d119_89 : decode cX11_tellLeastFrom 89 = .ok (.iload_n 3, 1) := by decide +kernel
theorem s119_89 {d : Nat} {st : List Value} {σ : am_I} {ρ : am_R} {g : am_J} {τ : am_T} {Q : am_Q} {x0 x1 x2 x4 x5 x6 x7 : Value} {v : Int32} : AW d 119 89 [x0, x1, x2, .int v, x4, x5, x6, x7] (st) σ ρ g τ Q = AW d 119 90 [x0, x1, x2, .int v, x4, x5, x6, x7] (.int v :: st) σ ρ g τ Q := aw_lc m119 d119_89 rfl rfl rfl
theorem d119_90 : decode cX11_tellLeastFrom 90 = .ok (.bipush 40, 2) := by decide +kernel
theorem s119_90 {d : Nat} {st : List Value} {σ : am_I} {ρ : am_R} {g : am_J} {τ : am_T} {Q : am_Q} {x0 x1 x2 x3 x4 x5 x6 x7 : Value} : AW d 119 90 [x0, x1, x2, x3, x4, x5, x6, x7] (st) σ ρ g τ Q = AW d 119 92 [x0, x1, x2, x3, x4, x5, x6, x7] (.int 40 :: st) σ ρ g τ Q := aw_lc m119 d119_90 rfl rfl rfl
theorem d119_92 : decode cX11_tellLeastFrom 92 = .ok (.iadd, 1) := by decide +kernel
theorem s119_92 {d : Nat} {st : List Value} {σ : am_I} {ρ : am_R} {g : am_J} {τ : am_T} {Q : am_Q} {x0 x1 x2 x3 x4 x5 x6 x7 : Value} {v w : Int32} : AW d 119 92 [x0, x1, x2, x3, x4, x5, x6, x7] (.int w :: .int v :: st) σ ρ g τ Q = AW d 119 93 [x0, x1, x2, x3, x4, x5, x6, x7] (.int (v + w) :: st) σ ρ g τ Q := aw_lc m119 d119_92 rfl rfl rfl
theorem d119_93 : decode cX11_tellLeastFrom 93 = .ok (.iconst 1, 1) := by decide +kernel
theorem s119_93 {d : Nat} {st : List Value} {σ : am_I} {ρ : am_R} {g : am_J} {τ : am_T} {Q : am_Q} {x0 x1 x2 x3 x4 x5 x6 x7 : Value} : AW d 119 93 [x0, x1, x2, x3, x4, x5, x6, x7] (st) σ ρ g τ Q = AW d 119 94 [x0, x1, x2, x3, x4, x5, x6, x7] (.int 1 :: st) σ ρ g τ Q := aw_lc m119 d119_93 rfl rfl rfl
theorem d119_94 : decode cX11_tellLeastFrom 94 = .ok (.iadd, 1) := by decide +kernel
theorem s119_94 {d : Nat} {st : List Value} {σ : am_I} {ρ : am_R} {g : am_J} {τ : am_T} {Q : am_Q} {x0 x1 x2 x3 x4 x5 x6 x7 : Value} {v w : Int32} : AW d 119 94 [x0, x1, x2, x3, x4, x5, x6, x7] (.int w :: .int v :: st) σ ρ g τ Q = AW d 119 95 [x0, x1, x2, x3, x4, x5, x6, x7] (.int (v + w) :: st) σ ρ g τ Q := aw_lc m119 d119_94 rfl rfl rfl
theorem d119_95 : decode cX11_tellLeastFrom 95 = .ok (.iload 6, 2) := by decide +kernel
theorem s119_95 {d : Nat} {st : List Value} {σ : am_I} {ρ : am_R} {g : am_J} {τ : am_T} {Q : am_Q} {x0 x1 x2 x3 x4 x5 x7 : Value} {v : Int32} : AW d 119 95 [x0, x1, x2, x3, x4, x5, .int v, x7] (st) σ ρ g τ Q = AW d 119 97 [x0, x1, x2, x3, x4, x5, .int v, x7] (.int v :: st) σ ρ g τ Q := aw_lc m119 d119_95 rfl rfl rfl
theorem d119_97 : decode cX11_tellLeastFrom 97 = .ok (.iadd, 1) := by decide +kernel
theorem s119_97 {d : Nat} {st : List Value} {σ : am_I} {ρ : am_R} {g : am_J} {τ : am_T} {Q : am_Q} {x0 x1 x2 x3 x4 x5 x6 x7 : Value} {v w : Int32} : AW d 119 97 [x0, x1, x2, x3, x4, x5, x6, x7] (.int w :: .int v :: st) σ ρ g τ Q = AW d 119 98 [x0, x1, x2, x3, x4, x5, x6, x7] (.int (v + w) :: st) σ ρ g τ Q := aw_lc m119 d119_97 rfl rfl rfl
theorem d119_98 : decode cX11_tellLeastFrom 98 = .ok (.iload 4, 2) := by decide +kernel
theorem s119_98 {d : Nat} {st : List Value} {σ : am_I} {ρ : am_R} {g : am_J} {τ : am_T} {Q : am_Q} {x0 x1 x2 x3 x5 x6 x7 : Value} {v : Int32} : AW d 119 98 [x0, x1, x2, x3, .int v, x5, x6, x7] (st) σ ρ g τ Q = AW d 119 100 [x0, x1, x2, x3, .int v, x5, x6, x7] (.int v :: st) σ ρ g τ Q := aw_lc m119 d119_98 rfl rfl rfl
theorem d119_100 : decode cX11_tellLeastFrom 100 = .ok (.isub, 1) := by decide +kernel
theorem s119_100 {d : Nat} {st : List Value} {σ : am_I} {ρ : am_R} {g : am_J} {τ : am_T} {Q : am_Q} {x0 x1 x2 x3 x4 x5 x6 x7 : Value} {v w : Int32} : AW d 119 100 [x0, x1, x2, x3, x4, x5, x6, x7] (.int w :: .int v :: st) σ ρ g τ Q = AW d 119 101 [x0, x1, x2, x3, x4, x5, x6, x7] (.int (v - w) :: st) σ ρ g τ Q := aw_lc m119 d119_100 rfl rfl rfl
theorem d119_101 : decode cX11_tellLeastFrom 101 = .ok (.iaload, 1) := by decide +kernel
theorem s119_101 {d : Nat} {st : List Value} {σ : am_I} {ρ : am_R} {g : am_J} {τ : am_T} {Q : am_Q} {x0 x1 x2 x3 x4 x5 x6 x7 : Value} {a : Nat} {j : Int32} (ht : τ.1 a = 15) (hj : am_inb j (τ.2.1 a) = true) : AW d 119 101 [x0, x1, x2, x3, x4, x5, x6, x7] (.int j :: .ref a :: st) σ ρ g τ Q = AW d 119 102 [x0, x1, x2, x3, x4, x5, x6, x7] (.int (σ a j.toNatClampNeg) :: st) σ ρ g τ Q := aw_ial m119 d119_101 rfl ht hj
theorem d119_102 : decode cX11_tellLeastFrom 102 = .ok (.istore 7, 2) := by decide +kernel
theorem s119_102 {d : Nat} {st : List Value} {σ : am_I} {ρ : am_R} {g : am_J} {τ : am_T} {Q : am_Q} {x0 x1 x2 x3 x4 x5 x7 : Value} {v : Int32} {u : Int32} : AW d 119 102 [x0, x1, x2, x3, x4, x5, .int u, x7] (.int v :: st) σ ρ g τ Q = AW d 119 104 [x0, x1, x2, x3, x4, x5, .int u, .int v] (st) σ ρ g τ Q := aw_lc m119 d119_102 rfl rfl rfl
theorem d119_104 : decode cX11_tellLeastFrom 104 = .ok (.aload_n 0, 1) := by decide +kernel
theorem s119_104 {d : Nat} {st : List Value} {σ : am_I} {ρ : am_R} {g : am_J} {τ : am_T} {Q : am_Q} {x1 x2 x3 x4 x5 x6 x7 : Value} {v : Nat} : AW d 119 104 [.ref v, x1, x2, x3, x4, x5, x6, x7] (st) σ ρ g τ Q = AW d 119 105 [.ref v, x1, x2, x3, x4, x5, x6, x7] (.ref v :: st) σ ρ g τ Q := aw_lc m119 d119_104 rfl rfl rfl
theorem d119_105 : decode cX11_tellLeastFrom 105 = .ok (.getfield 67, 3) := by decide +kernel
theorem s119_105 {d : Nat} {st : List Value} {σ : am_I} {ρ : am_R} {g : am_J} {τ : am_T} {Q : am_Q} {x0 x1 x2 x3 x4 x5 x6 x7 : Value} {a : Nat} (ht : τ.1 a = 11) : AW d 119 105 [x0, x1, x2, x3, x4, x5, x6, x7] (.ref a :: st) σ ρ g τ Q = AW d 119 108 [x0, x1, x2, x3, x4, x5, x6, x7] (va_rf (ρ a 9) :: st) σ ρ g τ Q := aw_gr m119 d119_105 rfl rfl rfl ht
theorem d119_108 : decode cX11_tellLeastFrom 108 = .ok (.iload_n 3, 1) := by decide +kernel
theorem s119_108 {d : Nat} {st : List Value} {σ : am_I} {ρ : am_R} {g : am_J} {τ : am_T} {Q : am_Q} {x0 x1 x2 x4 x5 x6 x7 : Value} {v : Int32} : AW d 119 108 [x0, x1, x2, .int v, x4, x5, x6, x7] (st) σ ρ g τ Q = AW d 119 109 [x0, x1, x2, .int v, x4, x5, x6, x7] (.int v :: st) σ ρ g τ Q := aw_lc m119 d119_108 rfl rfl rfl
theorem d119_109 : decode cX11_tellLeastFrom 109 = .ok (.iload 6, 2) := by decide +kernel
theorem s119_109 {d : Nat} {st : List Value} {σ : am_I} {ρ : am_R} {g : am_J} {τ : am_T} {Q : am_Q} {x0 x1 x2 x3 x4 x5 x7 : Value} {v : Int32} : AW d 119 109 [x0, x1, x2, x3, x4, x5, .int v, x7] (st) σ ρ g τ Q = AW d 119 111 [x0, x1, x2, x3, x4, x5, .int v, x7] (.int v :: st) σ ρ g τ Q := aw_lc m119 d119_109 rfl rfl rfl
theorem d119_111 : decode cX11_tellLeastFrom 111 = .ok (.iadd, 1) := by decide +kernel
theorem s119_111 {d : Nat} {st : List Value} {σ : am_I} {ρ : am_R} {g : am_J} {τ : am_T} {Q : am_Q} {x0 x1 x2 x3 x4 x5 x6 x7 : Value} {v w : Int32} : AW d 119 111 [x0, x1, x2, x3, x4, x5, x6, x7] (.int w :: .int v :: st) σ ρ g τ Q = AW d 119 112 [x0, x1, x2, x3, x4, x5, x6, x7] (.int (v + w) :: st) σ ρ g τ Q := aw_lc m119 d119_111 rfl rfl rfl
theorem d119_112 : decode cX11_tellLeastFrom 112 = .ok (.aload_n 0, 1) := by decide +kernel
theorem s119_112 {d : Nat} {st : List Value} {σ : am_I} {ρ : am_R} {g : am_J} {τ : am_T} {Q : am_Q} {x1 x2 x3 x4 x5 x6 x7 : Value} {v : Nat} : AW d 119 112 [.ref v, x1, x2, x3, x4, x5, x6, x7] (st) σ ρ g τ Q = AW d 119 113 [.ref v, x1, x2, x3, x4, x5, x6, x7] (.ref v :: st) σ ρ g τ Q := aw_lc m119 d119_112 rfl rfl rfl
theorem d119_113 : decode cX11_tellLeastFrom 113 = .ok (.getfield 67, 3) := by decide +kernel
theorem s119_113 {d : Nat} {st : List Value} {σ : am_I} {ρ : am_R} {g : am_J} {τ : am_T} {Q : am_Q} {x0 x1 x2 x3 x4 x5 x6 x7 : Value} {a : Nat} (ht : τ.1 a = 11) : AW d 119 113 [x0, x1, x2, x3, x4, x5, x6, x7] (.ref a :: st) σ ρ g τ Q = AW d 119 116 [x0, x1, x2, x3, x4, x5, x6, x7] (va_rf (ρ a 9) :: st) σ ρ g τ Q := aw_gr m119 d119_113 rfl rfl rfl ht
theorem d119_116 : decode cX11_tellLeastFrom 116 = .ok (.iload_n 3, 1) := by decide +kernel
theorem s119_116 {d : Nat} {st : List Value} {σ : am_I} {ρ : am_R} {g : am_J} {τ : am_T} {Q : am_Q} {x0 x1 x2 x4 x5 x6 x7 : Value} {v : Int32} : AW d 119 116 [x0, x1, x2, .int v, x4, x5, x6, x7] (st) σ ρ g τ Q = AW d 119 117 [x0, x1, x2, .int v, x4, x5, x6, x7] (.int v :: st) σ ρ g τ Q := aw_lc m119 d119_116 rfl rfl rfl
theorem d119_117 : decode cX11_tellLeastFrom 117 = .ok (.iload 6, 2) := by decide +kernel
theorem s119_117 {d : Nat} {st : List Value} {σ : am_I} {ρ : am_R} {g : am_J} {τ : am_T} {Q : am_Q} {x0 x1 x2 x3 x4 x5 x7 : Value} {v : Int32} : AW d 119 117 [x0, x1, x2, x3, x4, x5, .int v, x7] (st) σ ρ g τ Q = AW d 119 119 [x0, x1, x2, x3, x4, x5, .int v, x7] (.int v :: st) σ ρ g τ Q := aw_lc m119 d119_117 rfl rfl rfl
theorem d119_119 : decode cX11_tellLeastFrom 119 = .ok (.iadd, 1) := by decide +kernel
theorem s119_119 {d : Nat} {st : List Value} {σ : am_I} {ρ : am_R} {g : am_J} {τ : am_T} {Q : am_Q} {x0 x1 x2 x3 x4 x5 x6 x7 : Value} {v w : Int32} : AW d 119 119 [x0, x1, x2, x3, x4, x5, x6, x7] (.int w :: .int v :: st) σ ρ g τ Q = AW d 119 120 [x0, x1, x2, x3, x4, x5, x6, x7] (.int (v + w) :: st) σ ρ g τ Q := aw_lc m119 d119_119 rfl rfl rfl
theorem d119_120 : decode cX11_tellLeastFrom 120 = .ok (.iaload, 1) := by decide +kernel
theorem s119_120 {d : Nat} {st : List Value} {σ : am_I} {ρ : am_R} {g : am_J} {τ : am_T} {Q : am_Q} {x0 x1 x2 x3 x4 x5 x6 x7 : Value} {a : Nat} {j : Int32} (ht : τ.1 a = 15) (hj : am_inb j (τ.2.1 a) = true) : AW d 119 120 [x0, x1, x2, x3, x4, x5, x6, x7] (.int j :: .ref a :: st) σ ρ g τ Q = AW d 119 121 [x0, x1, x2, x3, x4, x5, x6, x7] (.int (σ a j.toNatClampNeg) :: st) σ ρ g τ Q := aw_ial m119 d119_120 rfl ht hj
theorem d119_121 : decode cX11_tellLeastFrom 121 = .ok (.iload 7, 2) := by decide +kernel
theorem s119_121 {d : Nat} {st : List Value} {σ : am_I} {ρ : am_R} {g : am_J} {τ : am_T} {Q : am_Q} {x0 x1 x2 x3 x4 x5 x6 : Value} {v : Int32} : AW d 119 121 [x0, x1, x2, x3, x4, x5, x6, .int v] (st) σ ρ g τ Q = AW d 119 123 [x0, x1, x2, x3, x4, x5, x6, .int v] (.int v :: st) σ ρ g τ Q := aw_lc m119 d119_121 rfl rfl rfl
theorem d119_123 : decode cX11_tellLeastFrom 123 = .ok (.iload 5, 2) := by decide +kernel
theorem s119_123 {d : Nat} {st : List Value} {σ : am_I} {ρ : am_R} {g : am_J} {τ : am_T} {Q : am_Q} {x0 x1 x2 x3 x4 x6 x7 : Value} {v : Int32} : AW d 119 123 [x0, x1, x2, x3, x4, .int v, x6, x7] (st) σ ρ g τ Q = AW d 119 125 [x0, x1, x2, x3, x4, .int v, x6, x7] (.int v :: st) σ ρ g τ Q := aw_lc m119 d119_123 rfl rfl rfl
theorem d119_125 : decode cX11_tellLeastFrom 125 = .ok (.iadd, 1) := by decide +kernel
theorem s119_125 {d : Nat} {st : List Value} {σ : am_I} {ρ : am_R} {g : am_J} {τ : am_T} {Q : am_Q} {x0 x1 x2 x3 x4 x5 x6 x7 : Value} {v w : Int32} : AW d 119 125 [x0, x1, x2, x3, x4, x5, x6, x7] (.int w :: .int v :: st) σ ρ g τ Q = AW d 119 126 [x0, x1, x2, x3, x4, x5, x6, x7] (.int (v + w) :: st) σ ρ g τ Q := aw_lc m119 d119_125 rfl rfl rfl
theorem d119_126 : decode cX11_tellLeastFrom 126 = .ok (.invokestatic 169, 3) := by decide +kernel
theorem s119_126 {d : Nat} {st : List Value} {σ : am_I} {ρ : am_R} {g : am_J} {τ : am_T} {Q : am_Q} {x0 x1 x2 x3 x4 x5 x6 x7 : Value} {v w : Int32} (hs : st.length ≤ 4) : AW d 119 126 [x0, x1, x2, x3, x4, x5, x6, x7] (.int w :: .int v :: st) σ ρ g τ Q = AW d 119 129 [x0, x1, x2, x3, x4, x5, x6, x7] (.int (if w < v then w else v) :: st) σ ρ g τ Q := aw_min m119 d119_126 rfl rfl hs
theorem d119_129 : decode cX11_tellLeastFrom 129 = .ok (.iastore, 1) := by decide +kernel
theorem s119_129 {d : Nat} {st : List Value} {σ : am_I} {ρ : am_R} {g : am_J} {τ : am_T} {Q : am_Q} {x0 x1 x2 x3 x4 x5 x6 x7 : Value} {a : Nat} {j v : Int32} (ht : τ.1 a = 15) (ha : a < am_BG) (hj : am_inb j (τ.2.1 a) = true) : AW d 119 129 [x0, x1, x2, x3, x4, x5, x6, x7] (.int v :: .int j :: .ref a :: st) σ ρ g τ Q = AW d 119 130 [x0, x1, x2, x3, x4, x5, x6, x7] (st) (am_u σ a j.toNatClampNeg v) ρ g τ Q := aw_ias m119 d119_129 rfl ht ha hj
theorem d119_130 : decode cX11_tellLeastFrom 130 = .ok (.iinc 6 1, 3) := by decide +kernel
theorem s119_130 {d : Nat} {st : List Value} {σ : am_I} {ρ : am_R} {g : am_J} {τ : am_T} {Q : am_Q} {x0 x1 x2 x3 x4 x7 : Value} {v : Int32} {u : Int32} : AW d 119 130 [x0, x1, x2, x3, x4, .int u, .int v, x7] (st) σ ρ g τ Q = AW d 119 133 [x0, x1, x2, x3, x4, .int u, .int (v + 1), x7] (st) σ ρ g τ Q := aw_lc m119 d119_130 rfl rfl rfl
theorem d119_133 : decode cX11_tellLeastFrom 133 = .ok (.goto (-55), 3) := by decide +kernel
theorem s119_133 {d : Nat} {st : List Value} {σ : am_I} {ρ : am_R} {g : am_J} {τ : am_T} {Q : am_Q} {x0 x1 x2 x3 x4 x5 x6 x7 : Value} : AW d 119 133 [x0, x1, x2, x3, x4, x5, x6, x7] (st) σ ρ g τ Q = AW d 119 78 [x0, x1, x2, x3, x4, x5, x6, x7] (st) σ ρ g τ Q := aw_lc m119 d119_133 rfl rfl rfl
theorem d119_136 : decode cX11_tellLeastFrom 136 = .ok (.iinc 4 1, 3) := by decide +kernel
theorem s119_136 {d : Nat} {st : List Value} {σ : am_I} {ρ : am_R} {g : am_J} {τ : am_T} {Q : am_Q} {x0 x1 x2 x5 x6 x7 : Value} {v : Int32} {u : Int32} : AW d 119 136 [x0, x1, x2, .int u, .int v, x5, x6, x7] (st) σ ρ g τ Q = AW d 119 139 [x0, x1, x2, .int u, .int (v + 1), x5, x6, x7] (st) σ ρ g τ Q := aw_lc m119 d119_136 rfl rfl rfl
theorem d119_139 : decode cX11_tellLeastFrom 139 = .ok (.goto (-85), 3) := by decide +kernel
theorem s119_139 {d : Nat} {st : List Value} {σ : am_I} {ρ : am_R} {g : am_J} {τ : am_T} {Q : am_Q} {x0 x1 x2 x3 x4 x5 x6 x7 : Value} : AW d 119 139 [x0, x1, x2, x3, x4, x5, x6, x7] (st) σ ρ g τ Q = AW d 119 54 [x0, x1, x2, x3, x4, x5, x6, x7] (st) σ ρ g τ Q := aw_lc m119 d119_139 rfl rfl rfl
theorem d119_142 : decode cX11_tellLeastFrom 142 = .ok (.return_, 1) := by decide +kernel
theorem s119_142 {d : Nat} {σ : am_I} {ρ : am_R} {g : am_J} {τ : am_T} {Q : am_Q} {x0 x1 x2 x3 x4 x5 x6 x7 : Value} : AW d 119 142 [x0, x1, x2, x3, x4, x5, x6, x7] ([]) σ ρ g τ Q = Q none σ ρ g τ := aw_rv m119 d119_142 rfl
theorem d120_0 : decode cX11_laidTo 0 = .ok (.iload_n 2, 1) := by decide +kernel
theorem s120_0 {d : Nat} {st : List Value} {σ : am_I} {ρ : am_R} {g : am_J} {τ : am_T} {Q : am_Q} {x0 x1 x3 x4 x5 x6 : Value} {v : Int32} : AW d 120 0 [x0, x1, .int v, x3, x4, x5, x6] (st) σ ρ g τ Q = AW d 120 1 [x0, x1, .int v, x3, x4, x5, x6] (.int v :: st) σ ρ g τ Q := aw_lc m120 d120_0 rfl rfl rfl
theorem d120_1 : decode cX11_laidTo 1 = .ok (.istore 4, 2) := by decide +kernel
theorem s120_1 {d : Nat} {st : List Value} {σ : am_I} {ρ : am_R} {g : am_J} {τ : am_T} {Q : am_Q} {x0 x1 x2 x4 x5 x6 : Value} {v : Int32} {u : Int32} : AW d 120 1 [x0, x1, x2, .int u, x4, x5, x6] (.int v :: st) σ ρ g τ Q = AW d 120 3 [x0, x1, x2, .int u, .int v, x5, x6] (st) σ ρ g τ Q := aw_lc m120 d120_1 rfl rfl rfl
theorem d120_3 : decode cX11_laidTo 3 = .ok (.iconst 0, 1) := by decide +kernel
theorem s120_3 {d : Nat} {st : List Value} {σ : am_I} {ρ : am_R} {g : am_J} {τ : am_T} {Q : am_Q} {x0 x1 x2 x3 x4 x5 x6 : Value} : AW d 120 3 [x0, x1, x2, x3, x4, x5, x6] (st) σ ρ g τ Q = AW d 120 4 [x0, x1, x2, x3, x4, x5, x6] (.int 0 :: st) σ ρ g τ Q := aw_lc m120 d120_3 rfl rfl rfl
theorem d120_4 : decode cX11_laidTo 4 = .ok (.istore 5, 2) := by decide +kernel
theorem s120_4 {d : Nat} {st : List Value} {σ : am_I} {ρ : am_R} {g : am_J} {τ : am_T} {Q : am_Q} {x0 x1 x2 x3 x5 x6 : Value} {v : Int32} {u : Int32} : AW d 120 4 [x0, x1, x2, x3, .int u, x5, x6] (.int v :: st) σ ρ g τ Q = AW d 120 6 [x0, x1, x2, x3, .int u, .int v, x6] (st) σ ρ g τ Q := aw_lc m120 d120_4 rfl rfl rfl
theorem d120_6 : decode cX11_laidTo 6 = .ok (.iconst 0, 1) := by decide +kernel
theorem s120_6 {d : Nat} {st : List Value} {σ : am_I} {ρ : am_R} {g : am_J} {τ : am_T} {Q : am_Q} {x0 x1 x2 x3 x4 x5 x6 : Value} : AW d 120 6 [x0, x1, x2, x3, x4, x5, x6] (st) σ ρ g τ Q = AW d 120 7 [x0, x1, x2, x3, x4, x5, x6] (.int 0 :: st) σ ρ g τ Q := aw_lc m120 d120_6 rfl rfl rfl
theorem d120_7 : decode cX11_laidTo 7 = .ok (.istore 6, 2) := by decide +kernel
theorem s120_7 {d : Nat} {st : List Value} {σ : am_I} {ρ : am_R} {g : am_J} {τ : am_T} {Q : am_Q} {x0 x1 x2 x3 x4 x6 : Value} {v : Int32} {u : Int32} : AW d 120 7 [x0, x1, x2, x3, x4, .int u, x6] (.int v :: st) σ ρ g τ Q = AW d 120 9 [x0, x1, x2, x3, x4, .int u, .int v] (st) σ ρ g τ Q := aw_lc m120 d120_7 rfl rfl rfl
theorem d120_9 : decode cX11_laidTo 9 = .ok (.iload 6, 2) := by decide +kernel
theorem s120_9 {d : Nat} {st : List Value} {σ : am_I} {ρ : am_R} {g : am_J} {τ : am_T} {Q : am_Q} {x0 x1 x2 x3 x4 x5 : Value} {v : Int32} : AW d 120 9 [x0, x1, x2, x3, x4, x5, .int v] (st) σ ρ g τ Q = AW d 120 11 [x0, x1, x2, x3, x4, x5, .int v] (.int v :: st) σ ρ g τ Q := aw_lc m120 d120_9 rfl rfl rfl
theorem d120_11 : decode cX11_laidTo 11 = .ok (.iload_n 1, 1) := by decide +kernel
theorem s120_11 {d : Nat} {st : List Value} {σ : am_I} {ρ : am_R} {g : am_J} {τ : am_T} {Q : am_Q} {x0 x2 x3 x4 x5 x6 : Value} {v : Int32} : AW d 120 11 [x0, .int v, x2, x3, x4, x5, x6] (st) σ ρ g τ Q = AW d 120 12 [x0, .int v, x2, x3, x4, x5, x6] (.int v :: st) σ ρ g τ Q := aw_lc m120 d120_11 rfl rfl rfl
theorem d120_12 : decode cX11_laidTo 12 = .ok (.if_icmp .gt 27, 3) := by decide +kernel
theorem s120_12 {d : Nat} {st : List Value} {σ : am_I} {ρ : am_R} {g : am_J} {τ : am_T} {Q : am_Q} {x0 x1 x2 x3 x4 x5 x6 : Value} {v w : Int32} : AW d 120 12 [x0, x1, x2, x3, x4, x5, x6] (.int w :: .int v :: st) σ ρ g τ Q = if w < v then AW d 120 39 [x0, x1, x2, x3, x4, x5, x6] (st) σ ρ g τ Q else AW d 120 15 [x0, x1, x2, x3, x4, x5, x6] (st) σ ρ g τ Q := aw_br m120 d120_12 rfl rfl rfl
theorem d120_15 : decode cX11_laidTo 15 = .ok (.iload 4, 2) := by decide +kernel
theorem s120_15 {d : Nat} {st : List Value} {σ : am_I} {ρ : am_R} {g : am_J} {τ : am_T} {Q : am_Q} {x0 x1 x2 x3 x5 x6 : Value} {v : Int32} : AW d 120 15 [x0, x1, x2, x3, .int v, x5, x6] (st) σ ρ g τ Q = AW d 120 17 [x0, x1, x2, x3, .int v, x5, x6] (.int v :: st) σ ρ g τ Q := aw_lc m120 d120_15 rfl rfl rfl
theorem d120_17 : decode cX11_laidTo 17 = .ok (.iload 5, 2) := by decide +kernel
theorem s120_17 {d : Nat} {st : List Value} {σ : am_I} {ρ : am_R} {g : am_J} {τ : am_T} {Q : am_Q} {x0 x1 x2 x3 x4 x6 : Value} {v : Int32} : AW d 120 17 [x0, x1, x2, x3, x4, .int v, x6] (st) σ ρ g τ Q = AW d 120 19 [x0, x1, x2, x3, x4, .int v, x6] (.int v :: st) σ ρ g τ Q := aw_lc m120 d120_17 rfl rfl rfl
theorem d120_19 : decode cX11_laidTo 19 = .ok (.isub, 1) := by decide +kernel
theorem s120_19 {d : Nat} {st : List Value} {σ : am_I} {ρ : am_R} {g : am_J} {τ : am_T} {Q : am_Q} {x0 x1 x2 x3 x4 x5 x6 : Value} {v w : Int32} : AW d 120 19 [x0, x1, x2, x3, x4, x5, x6] (.int w :: .int v :: st) σ ρ g τ Q = AW d 120 20 [x0, x1, x2, x3, x4, x5, x6] (.int (v - w) :: st) σ ρ g τ Q := aw_lc m120 d120_19 rfl rfl rfl
theorem d120_20 : decode cX11_laidTo 20 = .ok (.istore 4, 2) := by decide +kernel
theorem s120_20 {d : Nat} {st : List Value} {σ : am_I} {ρ : am_R} {g : am_J} {τ : am_T} {Q : am_Q} {x0 x1 x2 x4 x5 x6 : Value} {v : Int32} {u : Int32} : AW d 120 20 [x0, x1, x2, .int u, x4, x5, x6] (.int v :: st) σ ρ g τ Q = AW d 120 22 [x0, x1, x2, .int u, .int v, x5, x6] (st) σ ρ g τ Q := aw_lc m120 d120_20 rfl rfl rfl
theorem d120_22 : decode cX11_laidTo 22 = .ok (.aload_n 0, 1) := by decide +kernel
theorem s120_22 {d : Nat} {st : List Value} {σ : am_I} {ρ : am_R} {g : am_J} {τ : am_T} {Q : am_Q} {x1 x2 x3 x4 x5 x6 : Value} {v : Nat} : AW d 120 22 [.ref v, x1, x2, x3, x4, x5, x6] (st) σ ρ g τ Q = AW d 120 23 [.ref v, x1, x2, x3, x4, x5, x6] (.ref v :: st) σ ρ g τ Q := aw_lc m120 d120_22 rfl rfl rfl
theorem d120_23 : decode cX11_laidTo 23 = .ok (.iload 6, 2) := by decide +kernel
theorem s120_23 {d : Nat} {st : List Value} {σ : am_I} {ρ : am_R} {g : am_J} {τ : am_T} {Q : am_Q} {x0 x1 x2 x3 x4 x5 : Value} {v : Int32} : AW d 120 23 [x0, x1, x2, x3, x4, x5, .int v] (st) σ ρ g τ Q = AW d 120 25 [x0, x1, x2, x3, x4, x5, .int v] (.int v :: st) σ ρ g τ Q := aw_lc m120 d120_23 rfl rfl rfl
theorem d120_25 : decode cX11_laidTo 25 = .ok (.iload 4, 2) := by decide +kernel
theorem s120_25 {d : Nat} {st : List Value} {σ : am_I} {ρ : am_R} {g : am_J} {τ : am_T} {Q : am_Q} {x0 x1 x2 x3 x5 x6 : Value} {v : Int32} : AW d 120 25 [x0, x1, x2, x3, .int v, x5, x6] (st) σ ρ g τ Q = AW d 120 27 [x0, x1, x2, x3, .int v, x5, x6] (.int v :: st) σ ρ g τ Q := aw_lc m120 d120_25 rfl rfl rfl
theorem d120_27 : decode cX11_laidTo 27 = .ok (.iload_n 3, 1) := by decide +kernel
theorem s120_27 {d : Nat} {st : List Value} {σ : am_I} {ρ : am_R} {g : am_J} {τ : am_T} {Q : am_Q} {x0 x1 x2 x4 x5 x6 : Value} {v : Int32} : AW d 120 27 [x0, x1, x2, .int v, x4, x5, x6] (st) σ ρ g τ Q = AW d 120 28 [x0, x1, x2, .int v, x4, x5, x6] (.int v :: st) σ ρ g τ Q := aw_lc m120 d120_27 rfl rfl rfl
theorem d120_28 : decode cX11_laidTo 28 = .ok (.invokevirtual 174, 3) := by decide +kernel
theorem s120_28 {d : Nat} {st : List Value} {σ : am_I} {ρ : am_R} {g : am_J} {τ : am_T} {Q : am_Q} {x0 x1 x2 x3 x4 x5 x6 : Value} {p0 : Nat} {p1 : Int32} {p2 : Int32} {p3 : Int32} (ht : τ.1 p0 = 11) (hs : st.length ≤ 4) : AW (d + 1) 120 28 [x0, x1, x2, x3, x4, x5, x6] (.int p3 :: .int p2 :: .int p1 :: .ref p0 :: st) σ ρ g τ Q = AW d 121 0 [.ref p0, .int p1, .int p2, .int p3, am_jk, am_jk, am_jk] [] σ ρ g τ (fun r9 σ ρ g τ => AW (d + 1) 120 31 [x0, x1, x2, x3, x4, x5, x6] (r9.toList ++ st) σ ρ g τ Q) := aw_cv m120 d120_28 rfl m121 rfl rfl (by decide) en121 ok121 rfl ht hs
theorem d120_31 : decode cX11_laidTo 31 = .ok (.istore 5, 2) := by decide +kernel
theorem s120_31 {d : Nat} {st : List Value} {σ : am_I} {ρ : am_R} {g : am_J} {τ : am_T} {Q : am_Q} {x0 x1 x2 x3 x5 x6 : Value} {v : Int32} {u : Int32} : AW d 120 31 [x0, x1, x2, x3, .int u, x5, x6] (.int v :: st) σ ρ g τ Q = AW d 120 33 [x0, x1, x2, x3, .int u, .int v, x6] (st) σ ρ g τ Q := aw_lc m120 d120_31 rfl rfl rfl
theorem d120_33 : decode cX11_laidTo 33 = .ok (.iinc 6 1, 3) := by decide +kernel
theorem s120_33 {d : Nat} {st : List Value} {σ : am_I} {ρ : am_R} {g : am_J} {τ : am_T} {Q : am_Q} {x0 x1 x2 x3 x4 : Value} {v : Int32} {u : Int32} : AW d 120 33 [x0, x1, x2, x3, x4, .int u, .int v] (st) σ ρ g τ Q = AW d 120 36 [x0, x1, x2, x3, x4, .int u, .int (v + 1)] (st) σ ρ g τ Q := aw_lc m120 d120_33 rfl rfl rfl
theorem d120_36 : decode cX11_laidTo 36 = .ok (.goto (-27), 3) := by decide +kernel
theorem s120_36 {d : Nat} {st : List Value} {σ : am_I} {ρ : am_R} {g : am_J} {τ : am_T} {Q : am_Q} {x0 x1 x2 x3 x4 x5 x6 : Value} : AW d 120 36 [x0, x1, x2, x3, x4, x5, x6] (st) σ ρ g τ Q = AW d 120 9 [x0, x1, x2, x3, x4, x5, x6] (st) σ ρ g τ Q := aw_lc m120 d120_36 rfl rfl rfl
theorem d120_39 : decode cX11_laidTo 39 = .ok (.iload 5, 2) := by decide +kernel
theorem s120_39 {d : Nat} {st : List Value} {σ : am_I} {ρ : am_R} {g : am_J} {τ : am_T} {Q : am_Q} {x0 x1 x2 x3 x4 x6 : Value} {v : Int32} : AW d 120 39 [x0, x1, x2, x3, x4, .int v, x6] (st) σ ρ g τ Q = AW d 120 41 [x0, x1, x2, x3, x4, .int v, x6] (.int v :: st) σ ρ g τ Q := aw_lc m120 d120_39 rfl rfl rfl
theorem d120_41 : decode cX11_laidTo 41 = .ok (.ireturn, 1) := by decide +kernel
theorem s120_41 {d : Nat} {σ : am_I} {ρ : am_R} {g : am_J} {τ : am_T} {Q : am_Q} {x0 x1 x2 x3 x4 x5 x6 : Value} {v : Int32} : AW d 120 41 [x0, x1, x2, x3, x4, x5, x6] ([.int v]) σ ρ g τ Q = Q (some (.int v)) σ ρ g τ := aw_ri m120 d120_41 rfl
theorem d121_0 : decode cX11_mostHere 0 = .ok (.iload_n 1, 1) := by decide +kernel
theorem s121_0 {d : Nat} {st : List Value} {σ : am_I} {ρ : am_R} {g : am_J} {τ : am_T} {Q : am_Q} {x0 x2 x3 x4 x5 x6 : Value} {v : Int32} : AW d 121 0 [x0, .int v, x2, x3, x4, x5, x6] (st) σ ρ g τ Q = AW d 121 1 [x0, .int v, x2, x3, x4, x5, x6] (.int v :: st) σ ρ g τ Q := aw_lc m121 d121_0 rfl rfl rfl
theorem d121_1 : decode cX11_mostHere 1 = .ok (.bipush 41, 2) := by decide +kernel
theorem s121_1 {d : Nat} {st : List Value} {σ : am_I} {ρ : am_R} {g : am_J} {τ : am_T} {Q : am_Q} {x0 x1 x2 x3 x4 x5 x6 : Value} : AW d 121 1 [x0, x1, x2, x3, x4, x5, x6] (st) σ ρ g τ Q = AW d 121 3 [x0, x1, x2, x3, x4, x5, x6] (.int 41 :: st) σ ρ g τ Q := aw_lc m121 d121_1 rfl rfl rfl
theorem d121_3 : decode cX11_mostHere 3 = .ok (.imul, 1) := by decide +kernel
theorem s121_3 {d : Nat} {st : List Value} {σ : am_I} {ρ : am_R} {g : am_J} {τ : am_T} {Q : am_Q} {x0 x1 x2 x3 x4 x5 x6 : Value} {v w : Int32} : AW d 121 3 [x0, x1, x2, x3, x4, x5, x6] (.int w :: .int v :: st) σ ρ g τ Q = AW d 121 4 [x0, x1, x2, x3, x4, x5, x6] (.int (v * w) :: st) σ ρ g τ Q := aw_lc m121 d121_3 rfl rfl rfl
theorem d121_4 : decode cX11_mostHere 4 = .ok (.istore 4, 2) := by decide +kernel
theorem s121_4 {d : Nat} {st : List Value} {σ : am_I} {ρ : am_R} {g : am_J} {τ : am_T} {Q : am_Q} {x0 x1 x2 x4 x5 x6 : Value} {v : Int32} {u : Int32} : AW d 121 4 [x0, x1, x2, .int u, x4, x5, x6] (.int v :: st) σ ρ g τ Q = AW d 121 6 [x0, x1, x2, .int u, .int v, x5, x6] (st) σ ρ g τ Q := aw_lc m121 d121_4 rfl rfl rfl
theorem d121_6 : decode cX11_mostHere 6 = .ok (.bipush 9, 2) := by decide +kernel
theorem s121_6 {d : Nat} {st : List Value} {σ : am_I} {ρ : am_R} {g : am_J} {τ : am_T} {Q : am_Q} {x0 x1 x2 x3 x4 x5 x6 : Value} : AW d 121 6 [x0, x1, x2, x3, x4, x5, x6] (st) σ ρ g τ Q = AW d 121 8 [x0, x1, x2, x3, x4, x5, x6] (.int 9 :: st) σ ρ g τ Q := aw_lc m121 d121_6 rfl rfl rfl
theorem d121_8 : decode cX11_mostHere 8 = .ok (.iload_n 2, 1) := by decide +kernel
theorem s121_8 {d : Nat} {st : List Value} {σ : am_I} {ρ : am_R} {g : am_J} {τ : am_T} {Q : am_Q} {x0 x1 x3 x4 x5 x6 : Value} {v : Int32} : AW d 121 8 [x0, x1, .int v, x3, x4, x5, x6] (st) σ ρ g τ Q = AW d 121 9 [x0, x1, .int v, x3, x4, x5, x6] (.int v :: st) σ ρ g τ Q := aw_lc m121 d121_8 rfl rfl rfl
theorem d121_9 : decode cX11_mostHere 9 = .ok (.invokestatic 169, 3) := by decide +kernel
theorem s121_9 {d : Nat} {st : List Value} {σ : am_I} {ρ : am_R} {g : am_J} {τ : am_T} {Q : am_Q} {x0 x1 x2 x3 x4 x5 x6 : Value} {v w : Int32} (hs : st.length ≤ 4) : AW d 121 9 [x0, x1, x2, x3, x4, x5, x6] (.int w :: .int v :: st) σ ρ g τ Q = AW d 121 12 [x0, x1, x2, x3, x4, x5, x6] (.int (if w < v then w else v) :: st) σ ρ g τ Q := aw_min m121 d121_9 rfl rfl hs
theorem d121_12 : decode cX11_mostHere 12 = .ok (.istore 5, 2) := by decide +kernel
theorem s121_12 {d : Nat} {st : List Value} {σ : am_I} {ρ : am_R} {g : am_J} {τ : am_T} {Q : am_Q} {x0 x1 x2 x3 x5 x6 : Value} {v : Int32} {u : Int32} : AW d 121 12 [x0, x1, x2, x3, .int u, x5, x6] (.int v :: st) σ ρ g τ Q = AW d 121 14 [x0, x1, x2, x3, .int u, .int v, x6] (st) σ ρ g τ Q := aw_lc m121 d121_12 rfl rfl rfl
theorem d121_14 : decode cX11_mostHere 14 = .ok (.iload 5, 2) := by decide +kernel
theorem s121_14 {d : Nat} {st : List Value} {σ : am_I} {ρ : am_R} {g : am_J} {τ : am_T} {Q : am_Q} {x0 x1 x2 x3 x4 x6 : Value} {v : Int32} : AW d 121 14 [x0, x1, x2, x3, x4, .int v, x6] (st) σ ρ g τ Q = AW d 121 16 [x0, x1, x2, x3, x4, .int v, x6] (.int v :: st) σ ρ g τ Q := aw_lc m121 d121_14 rfl rfl rfl
theorem d121_16 : decode cX11_mostHere 16 = .ok (.ifCond .le 57, 3) := by decide +kernel
theorem s121_16 {d : Nat} {st : List Value} {σ : am_I} {ρ : am_R} {g : am_J} {τ : am_T} {Q : am_Q} {x0 x1 x2 x3 x4 x5 x6 : Value} {v : Int32} : AW d 121 16 [x0, x1, x2, x3, x4, x5, x6] (.int v :: st) σ ρ g τ Q = if v ≤ 0 then AW d 121 73 [x0, x1, x2, x3, x4, x5, x6] (st) σ ρ g τ Q else AW d 121 19 [x0, x1, x2, x3, x4, x5, x6] (st) σ ρ g τ Q := aw_br m121 d121_16 rfl rfl rfl
theorem d121_19 : decode cX11_mostHere 19 = .ok (.aload_n 0, 1) := by decide +kernel
theorem s121_19 {d : Nat} {st : List Value} {σ : am_I} {ρ : am_R} {g : am_J} {τ : am_T} {Q : am_Q} {x1 x2 x3 x4 x5 x6 : Value} {v : Nat} : AW d 121 19 [.ref v, x1, x2, x3, x4, x5, x6] (st) σ ρ g τ Q = AW d 121 20 [.ref v, x1, x2, x3, x4, x5, x6] (.ref v :: st) σ ρ g τ Q := aw_lc m121 d121_19 rfl rfl rfl
theorem d121_20 : decode cX11_mostHere 20 = .ok (.getfield 67, 3) := by decide +kernel
theorem s121_20 {d : Nat} {st : List Value} {σ : am_I} {ρ : am_R} {g : am_J} {τ : am_T} {Q : am_Q} {x0 x1 x2 x3 x4 x5 x6 : Value} {a : Nat} (ht : τ.1 a = 11) : AW d 121 20 [x0, x1, x2, x3, x4, x5, x6] (.ref a :: st) σ ρ g τ Q = AW d 121 23 [x0, x1, x2, x3, x4, x5, x6] (va_rf (ρ a 9) :: st) σ ρ g τ Q := aw_gr m121 d121_20 rfl rfl rfl ht
theorem d121_23 : decode cX11_mostHere 23 = .ok (.iload 4, 2) := by decide +kernel
theorem s121_23 {d : Nat} {st : List Value} {σ : am_I} {ρ : am_R} {g : am_J} {τ : am_T} {Q : am_Q} {x0 x1 x2 x3 x5 x6 : Value} {v : Int32} : AW d 121 23 [x0, x1, x2, x3, .int v, x5, x6] (st) σ ρ g τ Q = AW d 121 25 [x0, x1, x2, x3, .int v, x5, x6] (.int v :: st) σ ρ g τ Q := aw_lc m121 d121_23 rfl rfl rfl
theorem d121_25 : decode cX11_mostHere 25 = .ok (.bipush 40, 2) := by decide +kernel
theorem s121_25 {d : Nat} {st : List Value} {σ : am_I} {ρ : am_R} {g : am_J} {τ : am_T} {Q : am_Q} {x0 x1 x2 x3 x4 x5 x6 : Value} : AW d 121 25 [x0, x1, x2, x3, x4, x5, x6] (st) σ ρ g τ Q = AW d 121 27 [x0, x1, x2, x3, x4, x5, x6] (.int 40 :: st) σ ρ g τ Q := aw_lc m121 d121_25 rfl rfl rfl
theorem d121_27 : decode cX11_mostHere 27 = .ok (.iadd, 1) := by decide +kernel
theorem s121_27 {d : Nat} {st : List Value} {σ : am_I} {ρ : am_R} {g : am_J} {τ : am_T} {Q : am_Q} {x0 x1 x2 x3 x4 x5 x6 : Value} {v w : Int32} : AW d 121 27 [x0, x1, x2, x3, x4, x5, x6] (.int w :: .int v :: st) σ ρ g τ Q = AW d 121 28 [x0, x1, x2, x3, x4, x5, x6] (.int (v + w) :: st) σ ρ g τ Q := aw_lc m121 d121_27 rfl rfl rfl
theorem d121_28 : decode cX11_mostHere 28 = .ok (.iconst 1, 1) := by decide +kernel
theorem s121_28 {d : Nat} {st : List Value} {σ : am_I} {ρ : am_R} {g : am_J} {τ : am_T} {Q : am_Q} {x0 x1 x2 x3 x4 x5 x6 : Value} : AW d 121 28 [x0, x1, x2, x3, x4, x5, x6] (st) σ ρ g τ Q = AW d 121 29 [x0, x1, x2, x3, x4, x5, x6] (.int 1 :: st) σ ρ g τ Q := aw_lc m121 d121_28 rfl rfl rfl
theorem d121_29 : decode cX11_mostHere 29 = .ok (.iadd, 1) := by decide +kernel
theorem s121_29 {d : Nat} {st : List Value} {σ : am_I} {ρ : am_R} {g : am_J} {τ : am_T} {Q : am_Q} {x0 x1 x2 x3 x4 x5 x6 : Value} {v w : Int32} : AW d 121 29 [x0, x1, x2, x3, x4, x5, x6] (.int w :: .int v :: st) σ ρ g τ Q = AW d 121 30 [x0, x1, x2, x3, x4, x5, x6] (.int (v + w) :: st) σ ρ g τ Q := aw_lc m121 d121_29 rfl rfl rfl
theorem d121_30 : decode cX11_mostHere 30 = .ok (.iload_n 2, 1) := by decide +kernel
theorem s121_30 {d : Nat} {st : List Value} {σ : am_I} {ρ : am_R} {g : am_J} {τ : am_T} {Q : am_Q} {x0 x1 x3 x4 x5 x6 : Value} {v : Int32} : AW d 121 30 [x0, x1, .int v, x3, x4, x5, x6] (st) σ ρ g τ Q = AW d 121 31 [x0, x1, .int v, x3, x4, x5, x6] (.int v :: st) σ ρ g τ Q := aw_lc m121 d121_30 rfl rfl rfl
theorem d121_31 : decode cX11_mostHere 31 = .ok (.iadd, 1) := by decide +kernel
theorem s121_31 {d : Nat} {st : List Value} {σ : am_I} {ρ : am_R} {g : am_J} {τ : am_T} {Q : am_Q} {x0 x1 x2 x3 x4 x5 x6 : Value} {v w : Int32} : AW d 121 31 [x0, x1, x2, x3, x4, x5, x6] (.int w :: .int v :: st) σ ρ g τ Q = AW d 121 32 [x0, x1, x2, x3, x4, x5, x6] (.int (v + w) :: st) σ ρ g τ Q := aw_lc m121 d121_31 rfl rfl rfl
theorem d121_32 : decode cX11_mostHere 32 = .ok (.iload 5, 2) := by decide +kernel
theorem s121_32 {d : Nat} {st : List Value} {σ : am_I} {ρ : am_R} {g : am_J} {τ : am_T} {Q : am_Q} {x0 x1 x2 x3 x4 x6 : Value} {v : Int32} : AW d 121 32 [x0, x1, x2, x3, x4, .int v, x6] (st) σ ρ g τ Q = AW d 121 34 [x0, x1, x2, x3, x4, .int v, x6] (.int v :: st) σ ρ g τ Q := aw_lc m121 d121_32 rfl rfl rfl
theorem d121_34 : decode cX11_mostHere 34 = .ok (.isub, 1) := by decide +kernel
theorem s121_34 {d : Nat} {st : List Value} {σ : am_I} {ρ : am_R} {g : am_J} {τ : am_T} {Q : am_Q} {x0 x1 x2 x3 x4 x5 x6 : Value} {v w : Int32} : AW d 121 34 [x0, x1, x2, x3, x4, x5, x6] (.int w :: .int v :: st) σ ρ g τ Q = AW d 121 35 [x0, x1, x2, x3, x4, x5, x6] (.int (v - w) :: st) σ ρ g τ Q := aw_lc m121 d121_34 rfl rfl rfl
theorem d121_35 : decode cX11_mostHere 35 = .ok (.iaload, 1) := by decide +kernel
theorem s121_35 {d : Nat} {st : List Value} {σ : am_I} {ρ : am_R} {g : am_J} {τ : am_T} {Q : am_Q} {x0 x1 x2 x3 x4 x5 x6 : Value} {a : Nat} {j : Int32} (ht : τ.1 a = 15) (hj : am_inb j (τ.2.1 a) = true) : AW d 121 35 [x0, x1, x2, x3, x4, x5, x6] (.int j :: .ref a :: st) σ ρ g τ Q = AW d 121 36 [x0, x1, x2, x3, x4, x5, x6] (.int (σ a j.toNatClampNeg) :: st) σ ρ g τ Q := aw_ial m121 d121_35 rfl ht hj
theorem d121_36 : decode cX11_mostHere 36 = .ok (.istore 6, 2) := by decide +kernel
theorem s121_36 {d : Nat} {st : List Value} {σ : am_I} {ρ : am_R} {g : am_J} {τ : am_T} {Q : am_Q} {x0 x1 x2 x3 x4 x6 : Value} {v : Int32} {u : Int32} : AW d 121 36 [x0, x1, x2, x3, x4, .int u, x6] (.int v :: st) σ ρ g τ Q = AW d 121 38 [x0, x1, x2, x3, x4, .int u, .int v] (st) σ ρ g τ Q := aw_lc m121 d121_36 rfl rfl rfl
theorem d121_38 : decode cX11_mostHere 38 = .ok (.iload 6, 2) := by decide +kernel
theorem s121_38 {d : Nat} {st : List Value} {σ : am_I} {ρ : am_R} {g : am_J} {τ : am_T} {Q : am_Q} {x0 x1 x2 x3 x4 x5 : Value} {v : Int32} : AW d 121 38 [x0, x1, x2, x3, x4, x5, .int v] (st) σ ρ g τ Q = AW d 121 40 [x0, x1, x2, x3, x4, x5, .int v] (.int v :: st) σ ρ g τ Q := aw_lc m121 d121_38 rfl rfl rfl
theorem d121_40 : decode cX11_mostHere 40 = .ok (.aload_n 0, 1) := by decide +kernel
theorem s121_40 {d : Nat} {st : List Value} {σ : am_I} {ρ : am_R} {g : am_J} {τ : am_T} {Q : am_Q} {x1 x2 x3 x4 x5 x6 : Value} {v : Nat} : AW d 121 40 [.ref v, x1, x2, x3, x4, x5, x6] (st) σ ρ g τ Q = AW d 121 41 [.ref v, x1, x2, x3, x4, x5, x6] (.ref v :: st) σ ρ g τ Q := aw_lc m121 d121_40 rfl rfl rfl
theorem d121_41 : decode cX11_mostHere 41 = .ok (.getfield 10, 3) := by decide +kernel
theorem s121_41 {d : Nat} {st : List Value} {σ : am_I} {ρ : am_R} {g : am_J} {τ : am_T} {Q : am_Q} {x0 x1 x2 x3 x4 x5 x6 : Value} {a : Nat} (ht : τ.1 a = 11) : AW d 121 41 [x0, x1, x2, x3, x4, x5, x6] (.ref a :: st) σ ρ g τ Q = AW d 121 44 [x0, x1, x2, x3, x4, x5, x6] (va_rf (ρ a 0) :: st) σ ρ g τ Q := aw_gr m121 d121_41 rfl rfl rfl ht
theorem d121_44 : decode cX11_mostHere 44 = .ok (.iload_n 1, 1) := by decide +kernel
theorem s121_44 {d : Nat} {st : List Value} {σ : am_I} {ρ : am_R} {g : am_J} {τ : am_T} {Q : am_Q} {x0 x2 x3 x4 x5 x6 : Value} {v : Int32} : AW d 121 44 [x0, .int v, x2, x3, x4, x5, x6] (st) σ ρ g τ Q = AW d 121 45 [x0, .int v, x2, x3, x4, x5, x6] (.int v :: st) σ ρ g τ Q := aw_lc m121 d121_44 rfl rfl rfl
theorem d121_45 : decode cX11_mostHere 45 = .ok (.iload_n 3, 1) := by decide +kernel
theorem s121_45 {d : Nat} {st : List Value} {σ : am_I} {ρ : am_R} {g : am_J} {τ : am_T} {Q : am_Q} {x0 x1 x2 x4 x5 x6 : Value} {v : Int32} : AW d 121 45 [x0, x1, x2, .int v, x4, x5, x6] (st) σ ρ g τ Q = AW d 121 46 [x0, x1, x2, .int v, x4, x5, x6] (.int v :: st) σ ρ g τ Q := aw_lc m121 d121_45 rfl rfl rfl
theorem d121_46 : decode cX11_mostHere 46 = .ok (.iload 5, 2) := by decide +kernel
theorem s121_46 {d : Nat} {st : List Value} {σ : am_I} {ρ : am_R} {g : am_J} {τ : am_T} {Q : am_Q} {x0 x1 x2 x3 x4 x6 : Value} {v : Int32} : AW d 121 46 [x0, x1, x2, x3, x4, .int v, x6] (st) σ ρ g τ Q = AW d 121 48 [x0, x1, x2, x3, x4, .int v, x6] (.int v :: st) σ ρ g τ Q := aw_lc m121 d121_46 rfl rfl rfl
theorem d121_48 : decode cX11_mostHere 48 = .ok (.invokevirtual 166, 3) := by decide +kernel
theorem s121_48 {d : Nat} {st : List Value} {σ : am_I} {ρ : am_R} {g : am_J} {τ : am_T} {Q : am_Q} {x0 x1 x2 x3 x4 x5 x6 : Value} {p0 : Nat} {p1 : Int32} {p2 : Int32} {p3 : Int32} (ht : τ.1 p0 = 3) (hs : st.length ≤ 4) : AW (d + 1) 121 48 [x0, x1, x2, x3, x4, x5, x6] (.int p3 :: .int p2 :: .int p1 :: .ref p0 :: st) σ ρ g τ Q = AW d 30 0 [.ref p0, .int p1, .int p2, .int p3, am_jk, am_jk] [] σ ρ g τ (fun r9 σ ρ g τ => AW (d + 1) 121 51 [x0, x1, x2, x3, x4, x5, x6] (r9.toList ++ st) σ ρ g τ Q) := aw_cv m121 d121_48 rfl m30 rfl rfl (by decide) en30 ok30 rfl ht hs
theorem d121_51 : decode cX11_mostHere 51 = .ok (.iadd, 1) := by decide +kernel
theorem s121_51 {d : Nat} {st : List Value} {σ : am_I} {ρ : am_R} {g : am_J} {τ : am_T} {Q : am_Q} {x0 x1 x2 x3 x4 x5 x6 : Value} {v w : Int32} : AW d 121 51 [x0, x1, x2, x3, x4, x5, x6] (.int w :: .int v :: st) σ ρ g τ Q = AW d 121 52 [x0, x1, x2, x3, x4, x5, x6] (.int (v + w) :: st) σ ρ g τ Q := aw_lc m121 d121_51 rfl rfl rfl
theorem d121_52 : decode cX11_mostHere 52 = .ok (.aload_n 0, 1) := by decide +kernel
theorem s121_52 {d : Nat} {st : List Value} {σ : am_I} {ρ : am_R} {g : am_J} {τ : am_T} {Q : am_Q} {x1 x2 x3 x4 x5 x6 : Value} {v : Nat} : AW d 121 52 [.ref v, x1, x2, x3, x4, x5, x6] (st) σ ρ g τ Q = AW d 121 53 [.ref v, x1, x2, x3, x4, x5, x6] (.ref v :: st) σ ρ g τ Q := aw_lc m121 d121_52 rfl rfl rfl
theorem d121_53 : decode cX11_mostHere 53 = .ok (.getfield 67, 3) := by decide +kernel
theorem s121_53 {d : Nat} {st : List Value} {σ : am_I} {ρ : am_R} {g : am_J} {τ : am_T} {Q : am_Q} {x0 x1 x2 x3 x4 x5 x6 : Value} {a : Nat} (ht : τ.1 a = 11) : AW d 121 53 [x0, x1, x2, x3, x4, x5, x6] (.ref a :: st) σ ρ g τ Q = AW d 121 56 [x0, x1, x2, x3, x4, x5, x6] (va_rf (ρ a 9) :: st) σ ρ g τ Q := aw_gr m121 d121_53 rfl rfl rfl ht
theorem d121_56 : decode cX11_mostHere 56 = .ok (.iload 4, 2) := by decide +kernel
theorem s121_56 {d : Nat} {st : List Value} {σ : am_I} {ρ : am_R} {g : am_J} {τ : am_T} {Q : am_Q} {x0 x1 x2 x3 x5 x6 : Value} {v : Int32} : AW d 121 56 [x0, x1, x2, x3, .int v, x5, x6] (st) σ ρ g τ Q = AW d 121 58 [x0, x1, x2, x3, .int v, x5, x6] (.int v :: st) σ ρ g τ Q := aw_lc m121 d121_56 rfl rfl rfl
theorem d121_58 : decode cX11_mostHere 58 = .ok (.iload_n 2, 1) := by decide +kernel
theorem s121_58 {d : Nat} {st : List Value} {σ : am_I} {ρ : am_R} {g : am_J} {τ : am_T} {Q : am_Q} {x0 x1 x3 x4 x5 x6 : Value} {v : Int32} : AW d 121 58 [x0, x1, .int v, x3, x4, x5, x6] (st) σ ρ g τ Q = AW d 121 59 [x0, x1, .int v, x3, x4, x5, x6] (.int v :: st) σ ρ g τ Q := aw_lc m121 d121_58 rfl rfl rfl
theorem d121_59 : decode cX11_mostHere 59 = .ok (.iadd, 1) := by decide +kernel
theorem s121_59 {d : Nat} {st : List Value} {σ : am_I} {ρ : am_R} {g : am_J} {τ : am_T} {Q : am_Q} {x0 x1 x2 x3 x4 x5 x6 : Value} {v w : Int32} : AW d 121 59 [x0, x1, x2, x3, x4, x5, x6] (.int w :: .int v :: st) σ ρ g τ Q = AW d 121 60 [x0, x1, x2, x3, x4, x5, x6] (.int (v + w) :: st) σ ρ g τ Q := aw_lc m121 d121_59 rfl rfl rfl
theorem d121_60 : decode cX11_mostHere 60 = .ok (.iaload, 1) := by decide +kernel
theorem s121_60 {d : Nat} {st : List Value} {σ : am_I} {ρ : am_R} {g : am_J} {τ : am_T} {Q : am_Q} {x0 x1 x2 x3 x4 x5 x6 : Value} {a : Nat} {j : Int32} (ht : τ.1 a = 15) (hj : am_inb j (τ.2.1 a) = true) : AW d 121 60 [x0, x1, x2, x3, x4, x5, x6] (.int j :: .ref a :: st) σ ρ g τ Q = AW d 121 61 [x0, x1, x2, x3, x4, x5, x6] (.int (σ a j.toNatClampNeg) :: st) σ ρ g τ Q := aw_ial m121 d121_60 rfl ht hj
theorem d121_61 : decode cX11_mostHere 61 = .ok (.if_icmp .ne 6, 3) := by decide +kernel
theorem s121_61 {d : Nat} {st : List Value} {σ : am_I} {ρ : am_R} {g : am_J} {τ : am_T} {Q : am_Q} {x0 x1 x2 x3 x4 x5 x6 : Value} {v w : Int32} : AW d 121 61 [x0, x1, x2, x3, x4, x5, x6] (.int w :: .int v :: st) σ ρ g τ Q = if ¬ v = w then AW d 121 67 [x0, x1, x2, x3, x4, x5, x6] (st) σ ρ g τ Q else AW d 121 64 [x0, x1, x2, x3, x4, x5, x6] (st) σ ρ g τ Q := aw_br m121 d121_61 rfl rfl rfl
theorem d121_64 : decode cX11_mostHere 64 = .ok (.iload 5, 2) := by decide +kernel
theorem s121_64 {d : Nat} {st : List Value} {σ : am_I} {ρ : am_R} {g : am_J} {τ : am_T} {Q : am_Q} {x0 x1 x2 x3 x4 x6 : Value} {v : Int32} : AW d 121 64 [x0, x1, x2, x3, x4, .int v, x6] (st) σ ρ g τ Q = AW d 121 66 [x0, x1, x2, x3, x4, .int v, x6] (.int v :: st) σ ρ g τ Q := aw_lc m121 d121_64 rfl rfl rfl
theorem d121_66 : decode cX11_mostHere 66 = .ok (.ireturn, 1) := by decide +kernel
theorem s121_66 {d : Nat} {σ : am_I} {ρ : am_R} {g : am_J} {τ : am_T} {Q : am_Q} {x0 x1 x2 x3 x4 x5 x6 : Value} {v : Int32} : AW d 121 66 [x0, x1, x2, x3, x4, x5, x6] ([.int v]) σ ρ g τ Q = Q (some (.int v)) σ ρ g τ := aw_ri m121 d121_66 rfl
theorem d121_67 : decode cX11_mostHere 67 = .ok (.iinc 5 (-1), 3) := by decide +kernel
theorem s121_67 {d : Nat} {st : List Value} {σ : am_I} {ρ : am_R} {g : am_J} {τ : am_T} {Q : am_Q} {x0 x1 x2 x3 x6 : Value} {v : Int32} {u : Int32} : AW d 121 67 [x0, x1, x2, x3, .int u, .int v, x6] (st) σ ρ g τ Q = AW d 121 70 [x0, x1, x2, x3, .int u, .int (v + (-1)), x6] (st) σ ρ g τ Q := aw_lc m121 d121_67 rfl rfl rfl
theorem d121_70 : decode cX11_mostHere 70 = .ok (.goto (-56), 3) := by decide +kernel
theorem s121_70 {d : Nat} {st : List Value} {σ : am_I} {ρ : am_R} {g : am_J} {τ : am_T} {Q : am_Q} {x0 x1 x2 x3 x4 x5 x6 : Value} : AW d 121 70 [x0, x1, x2, x3, x4, x5, x6] (st) σ ρ g τ Q = AW d 121 14 [x0, x1, x2, x3, x4, x5, x6] (st) σ ρ g τ Q := aw_lc m121 d121_70 rfl rfl rfl
theorem d121_73 : decode cX11_mostHere 73 = .ok (.iconst 0, 1) := by decide +kernel
theorem s121_73 {d : Nat} {st : List Value} {σ : am_I} {ρ : am_R} {g : am_J} {τ : am_T} {Q : am_Q} {x0 x1 x2 x3 x4 x5 x6 : Value} : AW d 121 73 [x0, x1, x2, x3, x4, x5, x6] (st) σ ρ g τ Q = AW d 121 74 [x0, x1, x2, x3, x4, x5, x6] (.int 0 :: st) σ ρ g τ Q := aw_lc m121 d121_73 rfl rfl rfl
theorem d121_74 : decode cX11_mostHere 74 = .ok (.ireturn, 1) := by decide +kernel
theorem s121_74 {d : Nat} {σ : am_I} {ρ : am_R} {g : am_J} {τ : am_T} {Q : am_Q} {x0 x1 x2 x3 x4 x5 x6 : Value} {v : Int32} : AW d 121 74 [x0, x1, x2, x3, x4, x5, x6] ([.int v]) σ ρ g τ Q = Q (some (.int v)) σ ρ g τ := aw_ri m121 d121_74 rfl
theorem d122_0 : decode cX11_provinceOf 0 = .ok (.aload_n 0, 1) := by decide +kernel
theorem s122_0 {d : Nat} {st : List Value} {σ : am_I} {ρ : am_R} {g : am_J} {τ : am_T} {Q : am_Q} {x1 x2 x3 : Value} {v : Nat} : AW d 122 0 [.ref v, x1, x2, x3] (st) σ ρ g τ Q = AW d 122 1 [.ref v, x1, x2, x3] (.ref v :: st) σ ρ g τ Q := aw_lc m122 d122_0 rfl rfl rfl
theorem d122_1 : decode cX11_provinceOf 1 = .ok (.getfield 10, 3) := by decide +kernel
theorem s122_1 {d : Nat} {st : List Value} {σ : am_I} {ρ : am_R} {g : am_J} {τ : am_T} {Q : am_Q} {x0 x1 x2 x3 : Value} {a : Nat} (ht : τ.1 a = 11) : AW d 122 1 [x0, x1, x2, x3] (.ref a :: st) σ ρ g τ Q = AW d 122 4 [x0, x1, x2, x3] (va_rf (ρ a 0) :: st) σ ρ g τ Q := aw_gr m122 d122_1 rfl rfl rfl ht
theorem d122_4 : decode cX11_provinceOf 4 = .ok (.iload_n 1, 1) := by decide +kernel
theorem s122_4 {d : Nat} {st : List Value} {σ : am_I} {ρ : am_R} {g : am_J} {τ : am_T} {Q : am_Q} {x0 x2 x3 : Value} {v : Int32} : AW d 122 4 [x0, .int v, x2, x3] (st) σ ρ g τ Q = AW d 122 5 [x0, .int v, x2, x3] (.int v :: st) σ ρ g τ Q := aw_lc m122 d122_4 rfl rfl rfl
theorem d122_5 : decode cX11_provinceOf 5 = .ok (.invokevirtual 122, 3) := by decide +kernel
theorem s122_5 {d : Nat} {st : List Value} {σ : am_I} {ρ : am_R} {g : am_J} {τ : am_T} {Q : am_Q} {x0 x1 x2 x3 : Value} {p0 : Nat} {p1 : Int32} (ht : τ.1 p0 = 3) (hs : st.length ≤ 4) : AW (d + 1) 122 5 [x0, x1, x2, x3] (.int p1 :: .ref p0 :: st) σ ρ g τ Q = AW d 23 0 [.ref p0, .int p1] [] σ ρ g τ (fun r9 σ ρ g τ => AW (d + 1) 122 8 [x0, x1, x2, x3] (r9.toList ++ st) σ ρ g τ Q) := aw_cv m122 d122_5 rfl m23 rfl rfl (by decide) en23 ok23 rfl ht hs
theorem d122_8 : decode cX11_provinceOf 8 = .ok (.ifCond .ne 5, 3) := by decide +kernel
theorem s122_8 {d : Nat} {st : List Value} {σ : am_I} {ρ : am_R} {g : am_J} {τ : am_T} {Q : am_Q} {x0 x1 x2 x3 : Value} {v : Int32} : AW d 122 8 [x0, x1, x2, x3] (.int v :: st) σ ρ g τ Q = if ¬ v = 0 then AW d 122 13 [x0, x1, x2, x3] (st) σ ρ g τ Q else AW d 122 11 [x0, x1, x2, x3] (st) σ ρ g τ Q := aw_br m122 d122_8 rfl rfl rfl
theorem d122_11 : decode cX11_provinceOf 11 = .ok (.iconst (-1), 1) := by decide +kernel
theorem s122_11 {d : Nat} {st : List Value} {σ : am_I} {ρ : am_R} {g : am_J} {τ : am_T} {Q : am_Q} {x0 x1 x2 x3 : Value} : AW d 122 11 [x0, x1, x2, x3] (st) σ ρ g τ Q = AW d 122 12 [x0, x1, x2, x3] (.int (-1) :: st) σ ρ g τ Q := aw_lc m122 d122_11 rfl rfl rfl
theorem d122_12 : decode cX11_provinceOf 12 = .ok (.ireturn, 1) := by decide +kernel
theorem s122_12 {d : Nat} {σ : am_I} {ρ : am_R} {g : am_J} {τ : am_T} {Q : am_Q} {x0 x1 x2 x3 : Value} {v : Int32} : AW d 122 12 [x0, x1, x2, x3] ([.int v]) σ ρ g τ Q = Q (some (.int v)) σ ρ g τ := aw_ri m122 d122_12 rfl
theorem d122_13 : decode cX11_provinceOf 13 = .ok (.aload_n 0, 1) := by decide +kernel
theorem s122_13 {d : Nat} {st : List Value} {σ : am_I} {ρ : am_R} {g : am_J} {τ : am_T} {Q : am_Q} {x1 x2 x3 : Value} {v : Nat} : AW d 122 13 [.ref v, x1, x2, x3] (st) σ ρ g τ Q = AW d 122 14 [.ref v, x1, x2, x3] (.ref v :: st) σ ρ g τ Q := aw_lc m122 d122_13 rfl rfl rfl
theorem d122_14 : decode cX11_provinceOf 14 = .ok (.getfield 10, 3) := by decide +kernel
theorem s122_14 {d : Nat} {st : List Value} {σ : am_I} {ρ : am_R} {g : am_J} {τ : am_T} {Q : am_Q} {x0 x1 x2 x3 : Value} {a : Nat} (ht : τ.1 a = 11) : AW d 122 14 [x0, x1, x2, x3] (.ref a :: st) σ ρ g τ Q = AW d 122 17 [x0, x1, x2, x3] (va_rf (ρ a 0) :: st) σ ρ g τ Q := aw_gr m122 d122_14 rfl rfl rfl ht
theorem d122_17 : decode cX11_provinceOf 17 = .ok (.getfield 113, 3) := by decide +kernel
theorem s122_17 {d : Nat} {st : List Value} {σ : am_I} {ρ : am_R} {g : am_J} {τ : am_T} {Q : am_Q} {x0 x1 x2 x3 : Value} {a : Nat} (ht : τ.1 a = 3) : AW d 122 17 [x0, x1, x2, x3] (.ref a :: st) σ ρ g τ Q = AW d 122 20 [x0, x1, x2, x3] (va_rf (ρ a 5) :: st) σ ρ g τ Q := aw_gr m122 d122_17 rfl rfl rfl ht
theorem d122_20 : decode cX11_provinceOf 20 = .ok (.iload_n 1, 1) := by decide +kernel
theorem s122_20 {d : Nat} {st : List Value} {σ : am_I} {ρ : am_R} {g : am_J} {τ : am_T} {Q : am_Q} {x0 x2 x3 : Value} {v : Int32} : AW d 122 20 [x0, .int v, x2, x3] (st) σ ρ g τ Q = AW d 122 21 [x0, .int v, x2, x3] (.int v :: st) σ ρ g τ Q := aw_lc m122 d122_20 rfl rfl rfl
theorem d122_21 : decode cX11_provinceOf 21 = .ok (.aaload, 1) := by decide +kernel
theorem s122_21 {d : Nat} {st : List Value} {σ : am_I} {ρ : am_R} {g : am_J} {τ : am_T} {Q : am_Q} {x0 x1 x2 x3 : Value} {a : Nat} {j : Int32} (ht : 18 ≤ τ.1 a ∧ τ.1 a ≤ 22) (hj : am_inb j (τ.2.1 a) = true) : AW d 122 21 [x0, x1, x2, x3] (.int j :: .ref a :: st) σ ρ g τ Q = AW d 122 22 [x0, x1, x2, x3] (va_rf (ρ a j.toNatClampNeg) :: st) σ ρ g τ Q := aw_aal m122 d122_21 rfl ht hj
theorem d122_22 : decode cX11_provinceOf 22 = .ok (.astore_n 3, 1) := by decide +kernel
theorem s122_22 {d : Nat} {st : List Value} {σ : am_I} {ρ : am_R} {g : am_J} {τ : am_T} {Q : am_Q} {x0 x1 x3 : Value} {v : Nat} {u : Int32} : AW d 122 22 [x0, x1, .int u, x3] (.ref v :: st) σ ρ g τ Q = AW d 122 23 [x0, x1, .int u, .ref v] (st) σ ρ g τ Q := aw_lc m122 d122_22 rfl rfl rfl
theorem d122_23 : decode cX11_provinceOf 23 = .ok (.iload_n 2, 1) := by decide +kernel
theorem s122_23 {d : Nat} {st : List Value} {σ : am_I} {ρ : am_R} {g : am_J} {τ : am_T} {Q : am_Q} {x0 x1 x3 : Value} {v : Int32} : AW d 122 23 [x0, x1, .int v, x3] (st) σ ρ g τ Q = AW d 122 24 [x0, x1, .int v, x3] (.int v :: st) σ ρ g τ Q := aw_lc m122 d122_23 rfl rfl rfl
theorem d122_24 : decode cX11_provinceOf 24 = .ok (.tableswitch 69 0 4 #[36, 41, 54, 59, 64], 36) := by decide +kernel
theorem s122_24_0 {d : Nat} {st : List Value} {σ : am_I} {ρ : am_R} {g : am_J} {τ : am_T} {Q : am_Q} {x0 x1 x2 x3 : Value} : AW d 122 24 [x0, x1, x2, x3] (.int 0 :: st) σ ρ g τ Q = AW d 122 60 [x0, x1, x2, x3] (st) σ ρ g τ Q := aw_lc m122 d122_24 rfl rfl rfl
theorem s122_24_1 {d : Nat} {st : List Value} {σ : am_I} {ρ : am_R} {g : am_J} {τ : am_T} {Q : am_Q} {x0 x1 x2 x3 : Value} : AW d 122 24 [x0, x1, x2, x3] (.int 1 :: st) σ ρ g τ Q = AW d 122 65 [x0, x1, x2, x3] (st) σ ρ g τ Q := aw_lc m122 d122_24 rfl rfl rfl
theorem s122_24_2 {d : Nat} {st : List Value} {σ : am_I} {ρ : am_R} {g : am_J} {τ : am_T} {Q : am_Q} {x0 x1 x2 x3 : Value} : AW d 122 24 [x0, x1, x2, x3] (.int 2 :: st) σ ρ g τ Q = AW d 122 78 [x0, x1, x2, x3] (st) σ ρ g τ Q := aw_lc m122 d122_24 rfl rfl rfl
theorem s122_24_3 {d : Nat} {st : List Value} {σ : am_I} {ρ : am_R} {g : am_J} {τ : am_T} {Q : am_Q} {x0 x1 x2 x3 : Value} : AW d 122 24 [x0, x1, x2, x3] (.int 3 :: st) σ ρ g τ Q = AW d 122 83 [x0, x1, x2, x3] (st) σ ρ g τ Q := aw_lc m122 d122_24 rfl rfl rfl
theorem s122_24_4 {d : Nat} {st : List Value} {σ : am_I} {ρ : am_R} {g : am_J} {τ : am_T} {Q : am_Q} {x0 x1 x2 x3 : Value} : AW d 122 24 [x0, x1, x2, x3] (.int 4 :: st) σ ρ g τ Q = AW d 122 88 [x0, x1, x2, x3] (st) σ ρ g τ Q := aw_lc m122 d122_24 rfl rfl rfl
theorem s122_24_d {d : Nat} {st : List Value} {σ : am_I} {ρ : am_R} {g : am_J} {τ : am_T} {Q : am_Q} {x0 x1 x2 x3 : Value} {v : Int32} (h : v.toInt < 0 ∨ 4 < v.toInt) : AW d 122 24 [x0, x1, x2, x3] (.int v :: st) σ ρ g τ Q = AW d 122 93 [x0, x1, x2, x3] (st) σ ρ g τ Q := aw_lc m122 d122_24 rfl rfl (by simp only [am_lc]; rw [if_pos h]; rfl)
theorem d122_60 : decode cX11_provinceOf 60 = .ok (.aload_n 3, 1) := by decide +kernel
theorem s122_60 {d : Nat} {st : List Value} {σ : am_I} {ρ : am_R} {g : am_J} {τ : am_T} {Q : am_Q} {x0 x1 x2 : Value} {v : Nat} : AW d 122 60 [x0, x1, x2, .ref v] (st) σ ρ g τ Q = AW d 122 61 [x0, x1, x2, .ref v] (.ref v :: st) σ ρ g τ Q := aw_lc m122 d122_60 rfl rfl rfl
theorem d122_61 : decode cX11_provinceOf 61 = .ok (.getfield 177, 3) := by decide +kernel
theorem s122_61 {d : Nat} {st : List Value} {σ : am_I} {ρ : am_R} {g : am_J} {τ : am_T} {Q : am_Q} {x0 x1 x2 x3 : Value} {a : Nat} (ht : τ.1 a = 7) : AW d 122 61 [x0, x1, x2, x3] (.ref a :: st) σ ρ g τ Q = AW d 122 64 [x0, x1, x2, x3] (.int (σ a 2) :: st) σ ρ g τ Q := aw_gi m122 d122_61 rfl rfl rfl ht
theorem d122_64 : decode cX11_provinceOf 64 = .ok (.ireturn, 1) := by decide +kernel
theorem s122_64 {d : Nat} {σ : am_I} {ρ : am_R} {g : am_J} {τ : am_T} {Q : am_Q} {x0 x1 x2 x3 : Value} {v : Int32} : AW d 122 64 [x0, x1, x2, x3] ([.int v]) σ ρ g τ Q = Q (some (.int v)) σ ρ g τ := aw_ri m122 d122_64 rfl
theorem d122_65 : decode cX11_provinceOf 65 = .ok (.aload_n 3, 1) := by decide +kernel
theorem s122_65 {d : Nat} {st : List Value} {σ : am_I} {ρ : am_R} {g : am_J} {τ : am_T} {Q : am_Q} {x0 x1 x2 : Value} {v : Nat} : AW d 122 65 [x0, x1, x2, .ref v] (st) σ ρ g τ Q = AW d 122 66 [x0, x1, x2, .ref v] (.ref v :: st) σ ρ g τ Q := aw_lc m122 d122_65 rfl rfl rfl
theorem d122_66 : decode cX11_provinceOf 66 = .ok (.invokevirtual 180, 3) := by decide +kernel
theorem s122_66 {d : Nat} {st : List Value} {σ : am_I} {ρ : am_R} {g : am_J} {τ : am_T} {Q : am_Q} {x0 x1 x2 x3 : Value} {p0 : Nat} (ht : τ.1 p0 = 7) (hs : st.length ≤ 4) : AW (d + 1) 122 66 [x0, x1, x2, x3] (.ref p0 :: st) σ ρ g τ Q = AW d 61 0 [.ref p0] [] σ ρ g τ (fun r9 σ ρ g τ => AW (d + 1) 122 69 [x0, x1, x2, x3] (r9.toList ++ st) σ ρ g τ Q) := aw_cv m122 d122_66 rfl m61 rfl rfl (by decide) en61 ok61 rfl ht hs
theorem d122_69 : decode cX11_provinceOf 69 = .ok (.ifCond .eq 7, 3) := by decide +kernel
theorem s122_69 {d : Nat} {st : List Value} {σ : am_I} {ρ : am_R} {g : am_J} {τ : am_T} {Q : am_Q} {x0 x1 x2 x3 : Value} {v : Int32} : AW d 122 69 [x0, x1, x2, x3] (.int v :: st) σ ρ g τ Q = if v = 0 then AW d 122 76 [x0, x1, x2, x3] (st) σ ρ g τ Q else AW d 122 72 [x0, x1, x2, x3] (st) σ ρ g τ Q := aw_br m122 d122_69 rfl rfl rfl
theorem d122_72 : decode cX11_provinceOf 72 = .ok (.iconst 1, 1) := by decide +kernel
theorem s122_72 {d : Nat} {st : List Value} {σ : am_I} {ρ : am_R} {g : am_J} {τ : am_T} {Q : am_Q} {x0 x1 x2 x3 : Value} : AW d 122 72 [x0, x1, x2, x3] (st) σ ρ g τ Q = AW d 122 73 [x0, x1, x2, x3] (.int 1 :: st) σ ρ g τ Q := aw_lc m122 d122_72 rfl rfl rfl
theorem d122_73 : decode cX11_provinceOf 73 = .ok (.goto 4, 3) := by decide +kernel
theorem s122_73 {d : Nat} {st : List Value} {σ : am_I} {ρ : am_R} {g : am_J} {τ : am_T} {Q : am_Q} {x0 x1 x2 x3 : Value} : AW d 122 73 [x0, x1, x2, x3] (st) σ ρ g τ Q = AW d 122 77 [x0, x1, x2, x3] (st) σ ρ g τ Q := aw_lc m122 d122_73 rfl rfl rfl
theorem d122_76 : decode cX11_provinceOf 76 = .ok (.iconst 0, 1) := by decide +kernel
theorem s122_76 {d : Nat} {st : List Value} {σ : am_I} {ρ : am_R} {g : am_J} {τ : am_T} {Q : am_Q} {x0 x1 x2 x3 : Value} : AW d 122 76 [x0, x1, x2, x3] (st) σ ρ g τ Q = AW d 122 77 [x0, x1, x2, x3] (.int 0 :: st) σ ρ g τ Q := aw_lc m122 d122_76 rfl rfl rfl
theorem d122_77 : decode cX11_provinceOf 77 = .ok (.ireturn, 1) := by decide +kernel
theorem s122_77 {d : Nat} {σ : am_I} {ρ : am_R} {g : am_J} {τ : am_T} {Q : am_Q} {x0 x1 x2 x3 : Value} {v : Int32} : AW d 122 77 [x0, x1, x2, x3] ([.int v]) σ ρ g τ Q = Q (some (.int v)) σ ρ g τ := aw_ri m122 d122_77 rfl
theorem d122_78 : decode cX11_provinceOf 78 = .ok (.aload_n 3, 1) := by decide +kernel
theorem s122_78 {d : Nat} {st : List Value} {σ : am_I} {ρ : am_R} {g : am_J} {τ : am_T} {Q : am_Q} {x0 x1 x2 : Value} {v : Nat} : AW d 122 78 [x0, x1, x2, .ref v] (st) σ ρ g τ Q = AW d 122 79 [x0, x1, x2, .ref v] (.ref v :: st) σ ρ g τ Q := aw_lc m122 d122_78 rfl rfl rfl
theorem d122_79 : decode cX11_provinceOf 79 = .ok (.getfield 184, 3) := by decide +kernel
theorem s122_79 {d : Nat} {st : List Value} {σ : am_I} {ρ : am_R} {g : am_J} {τ : am_T} {Q : am_Q} {x0 x1 x2 x3 : Value} {a : Nat} (ht : τ.1 a = 7) : AW d 122 79 [x0, x1, x2, x3] (.ref a :: st) σ ρ g τ Q = AW d 122 82 [x0, x1, x2, x3] (.int (σ a 0) :: st) σ ρ g τ Q := aw_gi m122 d122_79 rfl rfl rfl ht
theorem d122_82 : decode cX11_provinceOf 82 = .ok (.ireturn, 1) := by decide +kernel
theorem s122_82 {d : Nat} {σ : am_I} {ρ : am_R} {g : am_J} {τ : am_T} {Q : am_Q} {x0 x1 x2 x3 : Value} {v : Int32} : AW d 122 82 [x0, x1, x2, x3] ([.int v]) σ ρ g τ Q = Q (some (.int v)) σ ρ g τ := aw_ri m122 d122_82 rfl
theorem d122_83 : decode cX11_provinceOf 83 = .ok (.aload_n 3, 1) := by decide +kernel
theorem s122_83 {d : Nat} {st : List Value} {σ : am_I} {ρ : am_R} {g : am_J} {τ : am_T} {Q : am_Q} {x0 x1 x2 : Value} {v : Nat} : AW d 122 83 [x0, x1, x2, .ref v] (st) σ ρ g τ Q = AW d 122 84 [x0, x1, x2, .ref v] (.ref v :: st) σ ρ g τ Q := aw_lc m122 d122_83 rfl rfl rfl
theorem d122_84 : decode cX11_provinceOf 84 = .ok (.getfield 187, 3) := by decide +kernel
theorem s122_84 {d : Nat} {st : List Value} {σ : am_I} {ρ : am_R} {g : am_J} {τ : am_T} {Q : am_Q} {x0 x1 x2 x3 : Value} {a : Nat} (ht : τ.1 a = 7) : AW d 122 84 [x0, x1, x2, x3] (.ref a :: st) σ ρ g τ Q = AW d 122 87 [x0, x1, x2, x3] (.int (σ a 1) :: st) σ ρ g τ Q := aw_gi m122 d122_84 rfl rfl rfl ht
theorem d122_87 : decode cX11_provinceOf 87 = .ok (.ireturn, 1) := by decide +kernel
theorem s122_87 {d : Nat} {σ : am_I} {ρ : am_R} {g : am_J} {τ : am_T} {Q : am_Q} {x0 x1 x2 x3 : Value} {v : Int32} : AW d 122 87 [x0, x1, x2, x3] ([.int v]) σ ρ g τ Q = Q (some (.int v)) σ ρ g τ := aw_ri m122 d122_87 rfl
theorem d122_88 : decode cX11_provinceOf 88 = .ok (.aload_n 3, 1) := by decide +kernel
theorem s122_88 {d : Nat} {st : List Value} {σ : am_I} {ρ : am_R} {g : am_J} {τ : am_T} {Q : am_Q} {x0 x1 x2 : Value} {v : Nat} : AW d 122 88 [x0, x1, x2, .ref v] (st) σ ρ g τ Q = AW d 122 89 [x0, x1, x2, .ref v] (.ref v :: st) σ ρ g τ Q := aw_lc m122 d122_88 rfl rfl rfl
theorem d122_89 : decode cX11_provinceOf 89 = .ok (.getfield 143, 3) := by decide +kernel
theorem s122_89 {d : Nat} {st : List Value} {σ : am_I} {ρ : am_R} {g : am_J} {τ : am_T} {Q : am_Q} {x0 x1 x2 x3 : Value} {a : Nat} (ht : τ.1 a = 7) : AW d 122 89 [x0, x1, x2, x3] (.ref a :: st) σ ρ g τ Q = AW d 122 92 [x0, x1, x2, x3] (.int (σ a 3) :: st) σ ρ g τ Q := aw_gi m122 d122_89 rfl rfl rfl ht
theorem d122_92 : decode cX11_provinceOf 92 = .ok (.ireturn, 1) := by decide +kernel
theorem s122_92 {d : Nat} {σ : am_I} {ρ : am_R} {g : am_J} {τ : am_T} {Q : am_Q} {x0 x1 x2 x3 : Value} {v : Int32} : AW d 122 92 [x0, x1, x2, x3] ([.int v]) σ ρ g τ Q = Q (some (.int v)) σ ρ g τ := aw_ri m122 d122_92 rfl
theorem d122_93 : decode cX11_provinceOf 93 = .ok (.iconst (-1), 1) := by decide +kernel
theorem s122_93 {d : Nat} {st : List Value} {σ : am_I} {ρ : am_R} {g : am_J} {τ : am_T} {Q : am_Q} {x0 x1 x2 x3 : Value} : AW d 122 93 [x0, x1, x2, x3] (st) σ ρ g τ Q = AW d 122 94 [x0, x1, x2, x3] (.int (-1) :: st) σ ρ g τ Q := aw_lc m122 d122_93 rfl rfl rfl
theorem d122_94 : decode cX11_provinceOf 94 = .ok (.ireturn, 1) := by decide +kernel
theorem s122_94 {d : Nat} {σ : am_I} {ρ : am_R} {g : am_J} {τ : am_T} {Q : am_Q} {x0 x1 x2 x3 : Value} {v : Int32} : AW d 122 94 [x0, x1, x2, x3] ([.int v]) σ ρ g τ Q = Q (some (.int v)) σ ρ g τ := aw_ri m122 d122_94 rfl
theorem d123_0 : decode cX11_debt 0 = .ok (.iload_n 2, 1) := by decide +kernel
theorem s123_0 {d : Nat} {st : List Value} {σ : am_I} {ρ : am_R} {g : am_J} {τ : am_T} {Q : am_Q} {x0 x1 x3 x4 x5 x6 : Value} {v : Int32} : AW d 123 0 [x0, x1, .int v, x3, x4, x5, x6] (st) σ ρ g τ Q = AW d 123 1 [x0, x1, .int v, x3, x4, x5, x6] (.int v :: st) σ ρ g τ Q := aw_lc m123 d123_0 rfl rfl rfl
theorem d123_1 : decode cX11_debt 1 = .ok (.bipush 100, 2) := by decide +kernel
theorem s123_1 {d : Nat} {st : List Value} {σ : am_I} {ρ : am_R} {g : am_J} {τ : am_T} {Q : am_Q} {x0 x1 x2 x3 x4 x5 x6 : Value} : AW d 123 1 [x0, x1, x2, x3, x4, x5, x6] (st) σ ρ g τ Q = AW d 123 3 [x0, x1, x2, x3, x4, x5, x6] (.int 100 :: st) σ ρ g τ Q := aw_lc m123 d123_1 rfl rfl rfl
theorem d123_3 : decode cX11_debt 3 = .ok (.idiv, 1) := by decide +kernel
theorem s123_3 {d : Nat} {st : List Value} {σ : am_I} {ρ : am_R} {g : am_J} {τ : am_T} {Q : am_Q} {x0 x1 x2 x3 x4 x5 x6 : Value} {v w : Int32} (h0 : ¬ w = 0) : AW d 123 3 [x0, x1, x2, x3, x4, x5, x6] (.int w :: .int v :: st) σ ρ g τ Q = AW d 123 4 [x0, x1, x2, x3, x4, x5, x6] (.int (v / w) :: st) σ ρ g τ Q := aw_div m123 d123_3 h0 rfl
theorem d123_4 : decode cX11_debt 4 = .ok (.istore 4, 2) := by decide +kernel
theorem s123_4 {d : Nat} {st : List Value} {σ : am_I} {ρ : am_R} {g : am_J} {τ : am_T} {Q : am_Q} {x0 x1 x2 x4 x5 x6 : Value} {v : Int32} {u : Int32} : AW d 123 4 [x0, x1, x2, .int u, x4, x5, x6] (.int v :: st) σ ρ g τ Q = AW d 123 6 [x0, x1, x2, .int u, .int v, x5, x6] (st) σ ρ g τ Q := aw_lc m123 d123_4 rfl rfl rfl
theorem d123_6 : decode cX11_debt 6 = .ok (.iload_n 2, 1) := by decide +kernel
theorem s123_6 {d : Nat} {st : List Value} {σ : am_I} {ρ : am_R} {g : am_J} {τ : am_T} {Q : am_Q} {x0 x1 x3 x4 x5 x6 : Value} {v : Int32} : AW d 123 6 [x0, x1, .int v, x3, x4, x5, x6] (st) σ ρ g τ Q = AW d 123 7 [x0, x1, .int v, x3, x4, x5, x6] (.int v :: st) σ ρ g τ Q := aw_lc m123 d123_6 rfl rfl rfl
theorem d123_7 : decode cX11_debt 7 = .ok (.bipush 10, 2) := by decide +kernel
theorem s123_7 {d : Nat} {st : List Value} {σ : am_I} {ρ : am_R} {g : am_J} {τ : am_T} {Q : am_Q} {x0 x1 x2 x3 x4 x5 x6 : Value} : AW d 123 7 [x0, x1, x2, x3, x4, x5, x6] (st) σ ρ g τ Q = AW d 123 9 [x0, x1, x2, x3, x4, x5, x6] (.int 10 :: st) σ ρ g τ Q := aw_lc m123 d123_7 rfl rfl rfl
theorem d123_9 : decode cX11_debt 9 = .ok (.idiv, 1) := by decide +kernel
theorem s123_9 {d : Nat} {st : List Value} {σ : am_I} {ρ : am_R} {g : am_J} {τ : am_T} {Q : am_Q} {x0 x1 x2 x3 x4 x5 x6 : Value} {v w : Int32} (h0 : ¬ w = 0) : AW d 123 9 [x0, x1, x2, x3, x4, x5, x6] (.int w :: .int v :: st) σ ρ g τ Q = AW d 123 10 [x0, x1, x2, x3, x4, x5, x6] (.int (v / w) :: st) σ ρ g τ Q := aw_div m123 d123_9 h0 rfl
theorem d123_10 : decode cX11_debt 10 = .ok (.bipush 10, 2) := by decide +kernel
theorem s123_10 {d : Nat} {st : List Value} {σ : am_I} {ρ : am_R} {g : am_J} {τ : am_T} {Q : am_Q} {x0 x1 x2 x3 x4 x5 x6 : Value} : AW d 123 10 [x0, x1, x2, x3, x4, x5, x6] (st) σ ρ g τ Q = AW d 123 12 [x0, x1, x2, x3, x4, x5, x6] (.int 10 :: st) σ ρ g τ Q := aw_lc m123 d123_10 rfl rfl rfl
theorem d123_12 : decode cX11_debt 12 = .ok (.irem, 1) := by decide +kernel
theorem s123_12 {d : Nat} {st : List Value} {σ : am_I} {ρ : am_R} {g : am_J} {τ : am_T} {Q : am_Q} {x0 x1 x2 x3 x4 x5 x6 : Value} {v w : Int32} (h0 : ¬ w = 0) : AW d 123 12 [x0, x1, x2, x3, x4, x5, x6] (.int w :: .int v :: st) σ ρ g τ Q = AW d 123 13 [x0, x1, x2, x3, x4, x5, x6] (.int (v - v / w * w) :: st) σ ρ g τ Q := aw_rem m123 d123_12 h0 rfl
theorem d123_13 : decode cX11_debt 13 = .ok (.istore 5, 2) := by decide +kernel
theorem s123_13 {d : Nat} {st : List Value} {σ : am_I} {ρ : am_R} {g : am_J} {τ : am_T} {Q : am_Q} {x0 x1 x2 x3 x5 x6 : Value} {v : Int32} {u : Int32} : AW d 123 13 [x0, x1, x2, x3, .int u, x5, x6] (.int v :: st) σ ρ g τ Q = AW d 123 15 [x0, x1, x2, x3, .int u, .int v, x6] (st) σ ρ g τ Q := aw_lc m123 d123_13 rfl rfl rfl
theorem d123_15 : decode cX11_debt 15 = .ok (.iload_n 2, 1) := by decide +kernel
theorem s123_15 {d : Nat} {st : List Value} {σ : am_I} {ρ : am_R} {g : am_J} {τ : am_T} {Q : am_Q} {x0 x1 x3 x4 x5 x6 : Value} {v : Int32} : AW d 123 15 [x0, x1, .int v, x3, x4, x5, x6] (st) σ ρ g τ Q = AW d 123 16 [x0, x1, .int v, x3, x4, x5, x6] (.int v :: st) σ ρ g τ Q := aw_lc m123 d123_15 rfl rfl rfl
theorem d123_16 : decode cX11_debt 16 = .ok (.bipush 10, 2) := by decide +kernel
theorem s123_16 {d : Nat} {st : List Value} {σ : am_I} {ρ : am_R} {g : am_J} {τ : am_T} {Q : am_Q} {x0 x1 x2 x3 x4 x5 x6 : Value} : AW d 123 16 [x0, x1, x2, x3, x4, x5, x6] (st) σ ρ g τ Q = AW d 123 18 [x0, x1, x2, x3, x4, x5, x6] (.int 10 :: st) σ ρ g τ Q := aw_lc m123 d123_16 rfl rfl rfl
theorem d123_18 : decode cX11_debt 18 = .ok (.irem, 1) := by decide +kernel
theorem s123_18 {d : Nat} {st : List Value} {σ : am_I} {ρ : am_R} {g : am_J} {τ : am_T} {Q : am_Q} {x0 x1 x2 x3 x4 x5 x6 : Value} {v w : Int32} (h0 : ¬ w = 0) : AW d 123 18 [x0, x1, x2, x3, x4, x5, x6] (.int w :: .int v :: st) σ ρ g τ Q = AW d 123 19 [x0, x1, x2, x3, x4, x5, x6] (.int (v - v / w * w) :: st) σ ρ g τ Q := aw_rem m123 d123_18 h0 rfl
theorem d123_19 : decode cX11_debt 19 = .ok (.istore 6, 2) := by decide +kernel
theorem s123_19 {d : Nat} {st : List Value} {σ : am_I} {ρ : am_R} {g : am_J} {τ : am_T} {Q : am_Q} {x0 x1 x2 x3 x4 x6 : Value} {v : Int32} {u : Int32} : AW d 123 19 [x0, x1, x2, x3, x4, .int u, x6] (.int v :: st) σ ρ g τ Q = AW d 123 21 [x0, x1, x2, x3, x4, .int u, .int v] (st) σ ρ g τ Q := aw_lc m123 d123_19 rfl rfl rfl
theorem d123_21 : decode cX11_debt 21 = .ok (.iload_n 2, 1) := by decide +kernel
theorem s123_21 {d : Nat} {st : List Value} {σ : am_I} {ρ : am_R} {g : am_J} {τ : am_T} {Q : am_Q} {x0 x1 x3 x4 x5 x6 : Value} {v : Int32} : AW d 123 21 [x0, x1, .int v, x3, x4, x5, x6] (st) σ ρ g τ Q = AW d 123 22 [x0, x1, .int v, x3, x4, x5, x6] (.int v :: st) σ ρ g τ Q := aw_lc m123 d123_21 rfl rfl rfl
theorem d123_22 : decode cX11_debt 22 = .ok (.ifCond .lt 39, 3) := by decide +kernel
theorem s123_22 {d : Nat} {st : List Value} {σ : am_I} {ρ : am_R} {g : am_J} {τ : am_T} {Q : am_Q} {x0 x1 x2 x3 x4 x5 x6 : Value} {v : Int32} : AW d 123 22 [x0, x1, x2, x3, x4, x5, x6] (.int v :: st) σ ρ g τ Q = if v < 0 then AW d 123 61 [x0, x1, x2, x3, x4, x5, x6] (st) σ ρ g τ Q else AW d 123 25 [x0, x1, x2, x3, x4, x5, x6] (st) σ ρ g τ Q := aw_br m123 d123_22 rfl rfl rfl
theorem d123_25 : decode cX11_debt 25 = .ok (.iload_n 1, 1) := by decide +kernel
theorem s123_25 {d : Nat} {st : List Value} {σ : am_I} {ρ : am_R} {g : am_J} {τ : am_T} {Q : am_Q} {x0 x2 x3 x4 x5 x6 : Value} {v : Int32} : AW d 123 25 [x0, .int v, x2, x3, x4, x5, x6] (st) σ ρ g τ Q = AW d 123 26 [x0, .int v, x2, x3, x4, x5, x6] (.int v :: st) σ ρ g τ Q := aw_lc m123 d123_25 rfl rfl rfl
theorem d123_26 : decode cX11_debt 26 = .ok (.invokestatic 190, 3) := by decide +kernel
theorem s123_26 {d : Nat} {st : List Value} {σ : am_I} {ρ : am_R} {g : am_J} {τ : am_T} {Q : am_Q} {x0 x1 x2 x3 x4 x5 x6 : Value} {p0 : Int32} (hs : st.length ≤ 4) : AW (d + 1) 123 26 [x0, x1, x2, x3, x4, x5, x6] (.int p0 :: st) σ ρ g τ Q = AW d 103 0 [.int p0] [] σ ρ g τ (fun r9 σ ρ g τ => AW (d + 1) 123 29 [x0, x1, x2, x3, x4, x5, x6] (r9.toList ++ st) σ ρ g τ Q) := aw_cs m123 d123_26 rfl (by simp only [List.length_cons]; omega) rfl rfl en103 ok103 rfl hs
theorem d123_29 : decode cX11_debt 29 = .ok (.ifCond .eq 32, 3) := by decide +kernel
theorem s123_29 {d : Nat} {st : List Value} {σ : am_I} {ρ : am_R} {g : am_J} {τ : am_T} {Q : am_Q} {x0 x1 x2 x3 x4 x5 x6 : Value} {v : Int32} : AW d 123 29 [x0, x1, x2, x3, x4, x5, x6] (.int v :: st) σ ρ g τ Q = if v = 0 then AW d 123 61 [x0, x1, x2, x3, x4, x5, x6] (st) σ ρ g τ Q else AW d 123 32 [x0, x1, x2, x3, x4, x5, x6] (st) σ ρ g τ Q := aw_br m123 d123_29 rfl rfl rfl
theorem d123_32 : decode cX11_debt 32 = .ok (.iload 4, 2) := by decide +kernel
theorem s123_32 {d : Nat} {st : List Value} {σ : am_I} {ρ : am_R} {g : am_J} {τ : am_T} {Q : am_Q} {x0 x1 x2 x3 x5 x6 : Value} {v : Int32} : AW d 123 32 [x0, x1, x2, x3, .int v, x5, x6] (st) σ ρ g τ Q = AW d 123 34 [x0, x1, x2, x3, .int v, x5, x6] (.int v :: st) σ ρ g τ Q := aw_lc m123 d123_32 rfl rfl rfl
theorem d123_34 : decode cX11_debt 34 = .ok (.invokestatic 193, 3) := by decide +kernel
theorem s123_34 {d : Nat} {st : List Value} {σ : am_I} {ρ : am_R} {g : am_J} {τ : am_T} {Q : am_Q} {x0 x1 x2 x3 x4 x5 x6 : Value} {p0 : Int32} (hs : st.length ≤ 4) : AW (d + 1) 123 34 [x0, x1, x2, x3, x4, x5, x6] (.int p0 :: st) σ ρ g τ Q = AW d 105 0 [.int p0] [] σ ρ g τ (fun r9 σ ρ g τ => AW (d + 1) 123 37 [x0, x1, x2, x3, x4, x5, x6] (r9.toList ++ st) σ ρ g τ Q) := aw_cs m123 d123_34 rfl (by simp only [List.length_cons]; omega) rfl rfl en105 ok105 rfl hs
theorem d123_37 : decode cX11_debt 37 = .ok (.ifCond .eq 24, 3) := by decide +kernel
theorem s123_37 {d : Nat} {st : List Value} {σ : am_I} {ρ : am_R} {g : am_J} {τ : am_T} {Q : am_Q} {x0 x1 x2 x3 x4 x5 x6 : Value} {v : Int32} : AW d 123 37 [x0, x1, x2, x3, x4, x5, x6] (.int v :: st) σ ρ g τ Q = if v = 0 then AW d 123 61 [x0, x1, x2, x3, x4, x5, x6] (st) σ ρ g τ Q else AW d 123 40 [x0, x1, x2, x3, x4, x5, x6] (st) σ ρ g τ Q := aw_br m123 d123_37 rfl rfl rfl
theorem d123_40 : decode cX11_debt 40 = .ok (.iload 5, 2) := by decide +kernel
theorem s123_40 {d : Nat} {st : List Value} {σ : am_I} {ρ : am_R} {g : am_J} {τ : am_T} {Q : am_Q} {x0 x1 x2 x3 x4 x6 : Value} {v : Int32} : AW d 123 40 [x0, x1, x2, x3, x4, .int v, x6] (st) σ ρ g τ Q = AW d 123 42 [x0, x1, x2, x3, x4, .int v, x6] (.int v :: st) σ ρ g τ Q := aw_lc m123 d123_40 rfl rfl rfl
theorem d123_42 : decode cX11_debt 42 = .ok (.iconst 3, 1) := by decide +kernel
theorem s123_42 {d : Nat} {st : List Value} {σ : am_I} {ρ : am_R} {g : am_J} {τ : am_T} {Q : am_Q} {x0 x1 x2 x3 x4 x5 x6 : Value} : AW d 123 42 [x0, x1, x2, x3, x4, x5, x6] (st) σ ρ g τ Q = AW d 123 43 [x0, x1, x2, x3, x4, x5, x6] (.int 3 :: st) σ ρ g τ Q := aw_lc m123 d123_42 rfl rfl rfl
theorem d123_43 : decode cX11_debt 43 = .ok (.if_icmp .gt 18, 3) := by decide +kernel
theorem s123_43 {d : Nat} {st : List Value} {σ : am_I} {ρ : am_R} {g : am_J} {τ : am_T} {Q : am_Q} {x0 x1 x2 x3 x4 x5 x6 : Value} {v w : Int32} : AW d 123 43 [x0, x1, x2, x3, x4, x5, x6] (.int w :: .int v :: st) σ ρ g τ Q = if w < v then AW d 123 61 [x0, x1, x2, x3, x4, x5, x6] (st) σ ρ g τ Q else AW d 123 46 [x0, x1, x2, x3, x4, x5, x6] (st) σ ρ g τ Q := aw_br m123 d123_43 rfl rfl rfl
theorem d123_46 : decode cX11_debt 46 = .ok (.iload 6, 2) := by decide +kernel
theorem s123_46 {d : Nat} {st : List Value} {σ : am_I} {ρ : am_R} {g : am_J} {τ : am_T} {Q : am_Q} {x0 x1 x2 x3 x4 x5 : Value} {v : Int32} : AW d 123 46 [x0, x1, x2, x3, x4, x5, .int v] (st) σ ρ g τ Q = AW d 123 48 [x0, x1, x2, x3, x4, x5, .int v] (.int v :: st) σ ρ g τ Q := aw_lc m123 d123_46 rfl rfl rfl
theorem d123_48 : decode cX11_debt 48 = .ok (.invokestatic 126, 3) := by decide +kernel
theorem s123_48 {d : Nat} {st : List Value} {σ : am_I} {ρ : am_R} {g : am_J} {τ : am_T} {Q : am_Q} {x0 x1 x2 x3 x4 x5 x6 : Value} {p0 : Int32} (hs : st.length ≤ 4) : AW (d + 1) 123 48 [x0, x1, x2, x3, x4, x5, x6] (.int p0 :: st) σ ρ g τ Q = AW d 102 0 [.int p0] [] σ ρ g τ (fun r9 σ ρ g τ => AW (d + 1) 123 51 [x0, x1, x2, x3, x4, x5, x6] (r9.toList ++ st) σ ρ g τ Q) := aw_cs m123 d123_48 rfl (by simp only [List.length_cons]; omega) rfl rfl en102 ok102 rfl hs
theorem d123_51 : decode cX11_debt 51 = .ok (.ifCond .eq 10, 3) := by decide +kernel
theorem s123_51 {d : Nat} {st : List Value} {σ : am_I} {ρ : am_R} {g : am_J} {τ : am_T} {Q : am_Q} {x0 x1 x2 x3 x4 x5 x6 : Value} {v : Int32} : AW d 123 51 [x0, x1, x2, x3, x4, x5, x6] (.int v :: st) σ ρ g τ Q = if v = 0 then AW d 123 61 [x0, x1, x2, x3, x4, x5, x6] (st) σ ρ g τ Q else AW d 123 54 [x0, x1, x2, x3, x4, x5, x6] (st) σ ρ g τ Q := aw_br m123 d123_51 rfl rfl rfl
theorem d123_54 : decode cX11_debt 54 = .ok (.iload_n 3, 1) := by decide +kernel
theorem s123_54 {d : Nat} {st : List Value} {σ : am_I} {ρ : am_R} {g : am_J} {τ : am_T} {Q : am_Q} {x0 x1 x2 x4 x5 x6 : Value} {v : Int32} : AW d 123 54 [x0, x1, x2, .int v, x4, x5, x6] (st) σ ρ g τ Q = AW d 123 55 [x0, x1, x2, .int v, x4, x5, x6] (.int v :: st) σ ρ g τ Q := aw_lc m123 d123_54 rfl rfl rfl
theorem d123_55 : decode cX11_debt 55 = .ok (.invokestatic 196, 3) := by decide +kernel
theorem s123_55 {d : Nat} {st : List Value} {σ : am_I} {ρ : am_R} {g : am_J} {τ : am_T} {Q : am_Q} {x0 x1 x2 x3 x4 x5 x6 : Value} {p0 : Int32} (hs : st.length ≤ 4) : AW (d + 1) 123 55 [x0, x1, x2, x3, x4, x5, x6] (.int p0 :: st) σ ρ g τ Q = AW d 104 0 [.int p0] [] σ ρ g τ (fun r9 σ ρ g τ => AW (d + 1) 123 58 [x0, x1, x2, x3, x4, x5, x6] (r9.toList ++ st) σ ρ g τ Q) := aw_cs m123 d123_55 rfl (by simp only [List.length_cons]; omega) rfl rfl en104 ok104 rfl hs
theorem d123_58 : decode cX11_debt 58 = .ok (.ifCond .ne 5, 3) := by decide +kernel
theorem s123_58 {d : Nat} {st : List Value} {σ : am_I} {ρ : am_R} {g : am_J} {τ : am_T} {Q : am_Q} {x0 x1 x2 x3 x4 x5 x6 : Value} {v : Int32} : AW d 123 58 [x0, x1, x2, x3, x4, x5, x6] (.int v :: st) σ ρ g τ Q = if ¬ v = 0 then AW d 123 63 [x0, x1, x2, x3, x4, x5, x6] (st) σ ρ g τ Q else AW d 123 61 [x0, x1, x2, x3, x4, x5, x6] (st) σ ρ g τ Q := aw_br m123 d123_58 rfl rfl rfl
theorem d123_61 : decode cX11_debt 61 = .ok (.iconst (-1), 1) := by decide +kernel
theorem s123_61 {d : Nat} {st : List Value} {σ : am_I} {ρ : am_R} {g : am_J} {τ : am_T} {Q : am_Q} {x0 x1 x2 x3 x4 x5 x6 : Value} : AW d 123 61 [x0, x1, x2, x3, x4, x5, x6] (st) σ ρ g τ Q = AW d 123 62 [x0, x1, x2, x3, x4, x5, x6] (.int (-1) :: st) σ ρ g τ Q := aw_lc m123 d123_61 rfl rfl rfl
theorem d123_62 : decode cX11_debt 62 = .ok (.ireturn, 1) := by decide +kernel
theorem s123_62 {d : Nat} {σ : am_I} {ρ : am_R} {g : am_J} {τ : am_T} {Q : am_Q} {x0 x1 x2 x3 x4 x5 x6 : Value} {v : Int32} : AW d 123 62 [x0, x1, x2, x3, x4, x5, x6] ([.int v]) σ ρ g τ Q = Q (some (.int v)) σ ρ g τ := aw_ri m123 d123_62 rfl
theorem d123_63 : decode cX11_debt 63 = .ok (.aload_n 0, 1) := by decide +kernel
theorem s123_63 {d : Nat} {st : List Value} {σ : am_I} {ρ : am_R} {g : am_J} {τ : am_T} {Q : am_Q} {x1 x2 x3 x4 x5 x6 : Value} {v : Nat} : AW d 123 63 [.ref v, x1, x2, x3, x4, x5, x6] (st) σ ρ g τ Q = AW d 123 64 [.ref v, x1, x2, x3, x4, x5, x6] (.ref v :: st) σ ρ g τ Q := aw_lc m123 d123_63 rfl rfl rfl
theorem d123_64 : decode cX11_debt 64 = .ok (.getfield 10, 3) := by decide +kernel
theorem s123_64 {d : Nat} {st : List Value} {σ : am_I} {ρ : am_R} {g : am_J} {τ : am_T} {Q : am_Q} {x0 x1 x2 x3 x4 x5 x6 : Value} {a : Nat} (ht : τ.1 a = 11) : AW d 123 64 [x0, x1, x2, x3, x4, x5, x6] (.ref a :: st) σ ρ g τ Q = AW d 123 67 [x0, x1, x2, x3, x4, x5, x6] (va_rf (ρ a 0) :: st) σ ρ g τ Q := aw_gr m123 d123_64 rfl rfl rfl ht
theorem d123_67 : decode cX11_debt 67 = .ok (.getfield 199, 3) := by decide +kernel
theorem s123_67 {d : Nat} {st : List Value} {σ : am_I} {ρ : am_R} {g : am_J} {τ : am_T} {Q : am_Q} {x0 x1 x2 x3 x4 x5 x6 : Value} {a : Nat} (ht : τ.1 a = 3) : AW d 123 67 [x0, x1, x2, x3, x4, x5, x6] (.ref a :: st) σ ρ g τ Q = AW d 123 70 [x0, x1, x2, x3, x4, x5, x6] (.int (σ a 8) :: st) σ ρ g τ Q := aw_gi m123 d123_67 rfl rfl rfl ht
theorem d123_70 : decode cX11_debt 70 = .ok (.bipush 16, 2) := by decide +kernel
theorem s123_70 {d : Nat} {st : List Value} {σ : am_I} {ρ : am_R} {g : am_J} {τ : am_T} {Q : am_Q} {x0 x1 x2 x3 x4 x5 x6 : Value} : AW d 123 70 [x0, x1, x2, x3, x4, x5, x6] (st) σ ρ g τ Q = AW d 123 72 [x0, x1, x2, x3, x4, x5, x6] (.int 16 :: st) σ ρ g τ Q := aw_lc m123 d123_70 rfl rfl rfl
theorem d123_72 : decode cX11_debt 72 = .ok (.if_icmp .lt 8, 3) := by decide +kernel
theorem s123_72 {d : Nat} {st : List Value} {σ : am_I} {ρ : am_R} {g : am_J} {τ : am_T} {Q : am_Q} {x0 x1 x2 x3 x4 x5 x6 : Value} {v w : Int32} : AW d 123 72 [x0, x1, x2, x3, x4, x5, x6] (.int w :: .int v :: st) σ ρ g τ Q = if v < w then AW d 123 80 [x0, x1, x2, x3, x4, x5, x6] (st) σ ρ g τ Q else AW d 123 75 [x0, x1, x2, x3, x4, x5, x6] (st) σ ρ g τ Q := aw_br m123 d123_72 rfl rfl rfl
theorem d123_75 : decode cX11_debt 75 = .ok (.bipush (-2), 2) := by decide +kernel
theorem s123_75 {d : Nat} {st : List Value} {σ : am_I} {ρ : am_R} {g : am_J} {τ : am_T} {Q : am_Q} {x0 x1 x2 x3 x4 x5 x6 : Value} : AW d 123 75 [x0, x1, x2, x3, x4, x5, x6] (st) σ ρ g τ Q = AW d 123 77 [x0, x1, x2, x3, x4, x5, x6] (.int (-2) :: st) σ ρ g τ Q := aw_lc m123 d123_75 rfl rfl rfl
theorem d123_77 : decode cX11_debt 77 = .ok (.goto 18, 3) := by decide +kernel
theorem s123_77 {d : Nat} {st : List Value} {σ : am_I} {ρ : am_R} {g : am_J} {τ : am_T} {Q : am_Q} {x0 x1 x2 x3 x4 x5 x6 : Value} : AW d 123 77 [x0, x1, x2, x3, x4, x5, x6] (st) σ ρ g τ Q = AW d 123 95 [x0, x1, x2, x3, x4, x5, x6] (st) σ ρ g τ Q := aw_lc m123 d123_77 rfl rfl rfl
theorem d123_80 : decode cX11_debt 80 = .ok (.aload_n 0, 1) := by decide +kernel
theorem s123_80 {d : Nat} {st : List Value} {σ : am_I} {ρ : am_R} {g : am_J} {τ : am_T} {Q : am_Q} {x1 x2 x3 x4 x5 x6 : Value} {v : Nat} : AW d 123 80 [.ref v, x1, x2, x3, x4, x5, x6] (st) σ ρ g τ Q = AW d 123 81 [.ref v, x1, x2, x3, x4, x5, x6] (.ref v :: st) σ ρ g τ Q := aw_lc m123 d123_80 rfl rfl rfl
theorem d123_81 : decode cX11_debt 81 = .ok (.getfield 10, 3) := by decide +kernel
theorem s123_81 {d : Nat} {st : List Value} {σ : am_I} {ρ : am_R} {g : am_J} {τ : am_T} {Q : am_Q} {x0 x1 x2 x3 x4 x5 x6 : Value} {a : Nat} (ht : τ.1 a = 11) : AW d 123 81 [x0, x1, x2, x3, x4, x5, x6] (.ref a :: st) σ ρ g τ Q = AW d 123 84 [x0, x1, x2, x3, x4, x5, x6] (va_rf (ρ a 0) :: st) σ ρ g τ Q := aw_gr m123 d123_81 rfl rfl rfl ht
theorem d123_84 : decode cX11_debt 84 = .ok (.iload_n 1, 1) := by decide +kernel
theorem s123_84 {d : Nat} {st : List Value} {σ : am_I} {ρ : am_R} {g : am_J} {τ : am_T} {Q : am_Q} {x0 x2 x3 x4 x5 x6 : Value} {v : Int32} : AW d 123 84 [x0, .int v, x2, x3, x4, x5, x6] (st) σ ρ g τ Q = AW d 123 85 [x0, .int v, x2, x3, x4, x5, x6] (.int v :: st) σ ρ g τ Q := aw_lc m123 d123_84 rfl rfl rfl
theorem d123_85 : decode cX11_debt 85 = .ok (.iload 5, 2) := by decide +kernel
theorem s123_85 {d : Nat} {st : List Value} {σ : am_I} {ρ : am_R} {g : am_J} {τ : am_T} {Q : am_Q} {x0 x1 x2 x3 x4 x6 : Value} {v : Int32} : AW d 123 85 [x0, x1, x2, x3, x4, .int v, x6] (st) σ ρ g τ Q = AW d 123 87 [x0, x1, x2, x3, x4, .int v, x6] (.int v :: st) σ ρ g τ Q := aw_lc m123 d123_85 rfl rfl rfl
theorem d123_87 : decode cX11_debt 87 = .ok (.iload 6, 2) := by decide +kernel
theorem s123_87 {d : Nat} {st : List Value} {σ : am_I} {ρ : am_R} {g : am_J} {τ : am_T} {Q : am_Q} {x0 x1 x2 x3 x4 x5 : Value} {v : Int32} : AW d 123 87 [x0, x1, x2, x3, x4, x5, .int v] (st) σ ρ g τ Q = AW d 123 89 [x0, x1, x2, x3, x4, x5, .int v] (.int v :: st) σ ρ g τ Q := aw_lc m123 d123_87 rfl rfl rfl
theorem d123_89 : decode cX11_debt 89 = .ok (.iload_n 3, 1) := by decide +kernel
theorem s123_89 {d : Nat} {st : List Value} {σ : am_I} {ρ : am_R} {g : am_J} {τ : am_T} {Q : am_Q} {x0 x1 x2 x4 x5 x6 : Value} {v : Int32} : AW d 123 89 [x0, x1, x2, .int v, x4, x5, x6] (st) σ ρ g τ Q = AW d 123 90 [x0, x1, x2, .int v, x4, x5, x6] (.int v :: st) σ ρ g τ Q := aw_lc m123 d123_89 rfl rfl rfl
theorem d123_90 : decode cX11_debt 90 = .ok (.iload 4, 2) := by decide +kernel
theorem s123_90 {d : Nat} {st : List Value} {σ : am_I} {ρ : am_R} {g : am_J} {τ : am_T} {Q : am_Q} {x0 x1 x2 x3 x5 x6 : Value} {v : Int32} : AW d 123 90 [x0, x1, x2, x3, .int v, x5, x6] (st) σ ρ g τ Q = AW d 123 92 [x0, x1, x2, x3, .int v, x5, x6] (.int v :: st) σ ρ g τ Q := aw_lc m123 d123_90 rfl rfl rfl
theorem d123_92 : decode cX11_debt 92 = .ok (.invokevirtual 202, 3) := by decide +kernel
theorem s123_92 {d : Nat} {st : List Value} {σ : am_I} {ρ : am_R} {g : am_J} {τ : am_T} {Q : am_Q} {x0 x1 x2 x3 x4 x5 x6 : Value} {p0 : Nat} {p1 : Int32} {p2 : Int32} {p3 : Int32} {p4 : Int32} {p5 : Int32} (ht : τ.1 p0 = 3) (hs : st.length ≤ 4) : AW (d + 1) 123 92 [x0, x1, x2, x3, x4, x5, x6] (.int p5 :: .int p4 :: .int p3 :: .int p2 :: .int p1 :: .ref p0 :: st) σ ρ g τ Q = AW d 25 0 [.ref p0, .int p1, .int p2, .int p3, .int p4, .int p5] [] σ ρ g τ (fun r9 σ ρ g τ => AW (d + 1) 123 95 [x0, x1, x2, x3, x4, x5, x6] (r9.toList ++ st) σ ρ g τ Q) := aw_cv m123 d123_92 rfl m25 rfl rfl (by decide) en25 ok25 rfl ht hs
theorem d123_95 : decode cX11_debt 95 = .ok (.ireturn, 1) := by decide +kernel
theorem s123_95 {d : Nat} {σ : am_I} {ρ : am_R} {g : am_J} {τ : am_T} {Q : am_Q} {x0 x1 x2 x3 x4 x5 x6 : Value} {v : Int32} : AW d 123 95 [x0, x1, x2, x3, x4, x5, x6] ([.int v]) σ ρ g τ Q = Q (some (.int v)) σ ρ g τ := aw_ri m123 d123_95 rfl
theorem d124_0 : decode cX11_debtOf 0 = .ok (.aload_n 0, 1) := by decide +kernel
theorem s124_0 {d : Nat} {st : List Value} {σ : am_I} {ρ : am_R} {g : am_J} {τ : am_T} {Q : am_Q} {x1 x2 x3 x4 x5 : Value} {v : Nat} : AW d 124 0 [.ref v, x1, x2, x3, x4, x5] (st) σ ρ g τ Q = AW d 124 1 [.ref v, x1, x2, x3, x4, x5] (.ref v :: st) σ ρ g τ Q := aw_lc m124 d124_0 rfl rfl rfl
theorem d124_1 : decode cX11_debtOf 1 = .ok (.getfield 10, 3) := by decide +kernel
theorem s124_1 {d : Nat} {st : List Value} {σ : am_I} {ρ : am_R} {g : am_J} {τ : am_T} {Q : am_Q} {x0 x1 x2 x3 x4 x5 : Value} {a : Nat} (ht : τ.1 a = 11) : AW d 124 1 [x0, x1, x2, x3, x4, x5] (.ref a :: st) σ ρ g τ Q = AW d 124 4 [x0, x1, x2, x3, x4, x5] (va_rf (ρ a 0) :: st) σ ρ g τ Q := aw_gr m124 d124_1 rfl rfl rfl ht
theorem d124_4 : decode cX11_debtOf 4 = .ok (.iload_n 1, 1) := by decide +kernel
theorem s124_4 {d : Nat} {st : List Value} {σ : am_I} {ρ : am_R} {g : am_J} {τ : am_T} {Q : am_Q} {x0 x2 x3 x4 x5 : Value} {v : Int32} : AW d 124 4 [x0, .int v, x2, x3, x4, x5] (st) σ ρ g τ Q = AW d 124 5 [x0, .int v, x2, x3, x4, x5] (.int v :: st) σ ρ g τ Q := aw_lc m124 d124_4 rfl rfl rfl
theorem d124_5 : decode cX11_debtOf 5 = .ok (.invokevirtual 206, 3) := by decide +kernel
theorem s124_5 {d : Nat} {st : List Value} {σ : am_I} {ρ : am_R} {g : am_J} {τ : am_T} {Q : am_Q} {x0 x1 x2 x3 x4 x5 : Value} {p0 : Nat} {p1 : Int32} (ht : τ.1 p0 = 3) (hs : st.length ≤ 4) : AW (d + 1) 124 5 [x0, x1, x2, x3, x4, x5] (.int p1 :: .ref p0 :: st) σ ρ g τ Q = AW d 24 0 [.ref p0, .int p1] [] σ ρ g τ (fun r9 σ ρ g τ => AW (d + 1) 124 8 [x0, x1, x2, x3, x4, x5] (r9.toList ++ st) σ ρ g τ Q) := aw_cv m124 d124_5 rfl m24 rfl rfl (by decide) en24 ok24 rfl ht hs
theorem d124_8 : decode cX11_debtOf 8 = .ok (.ifCond .eq 10, 3) := by decide +kernel
theorem s124_8 {d : Nat} {st : List Value} {σ : am_I} {ρ : am_R} {g : am_J} {τ : am_T} {Q : am_Q} {x0 x1 x2 x3 x4 x5 : Value} {v : Int32} : AW d 124 8 [x0, x1, x2, x3, x4, x5] (.int v :: st) σ ρ g τ Q = if v = 0 then AW d 124 18 [x0, x1, x2, x3, x4, x5] (st) σ ρ g τ Q else AW d 124 11 [x0, x1, x2, x3, x4, x5] (st) σ ρ g τ Q := aw_br m124 d124_8 rfl rfl rfl
theorem d124_11 : decode cX11_debtOf 11 = .ok (.iload_n 2, 1) := by decide +kernel
theorem s124_11 {d : Nat} {st : List Value} {σ : am_I} {ρ : am_R} {g : am_J} {τ : am_T} {Q : am_Q} {x0 x1 x3 x4 x5 : Value} {v : Int32} : AW d 124 11 [x0, x1, .int v, x3, x4, x5] (st) σ ρ g τ Q = AW d 124 12 [x0, x1, .int v, x3, x4, x5] (.int v :: st) σ ρ g τ Q := aw_lc m124 d124_11 rfl rfl rfl
theorem d124_12 : decode cX11_debtOf 12 = .ok (.invokestatic 149, 3) := by decide +kernel
theorem s124_12 {d : Nat} {st : List Value} {σ : am_I} {ρ : am_R} {g : am_J} {τ : am_T} {Q : am_Q} {x0 x1 x2 x3 x4 x5 : Value} {p0 : Int32} (hs : st.length ≤ 4) : AW (d + 1) 124 12 [x0, x1, x2, x3, x4, x5] (.int p0 :: st) σ ρ g τ Q = AW d 101 0 [.int p0] [] σ ρ g τ (fun r9 σ ρ g τ => AW (d + 1) 124 15 [x0, x1, x2, x3, x4, x5] (r9.toList ++ st) σ ρ g τ Q) := aw_cs m124 d124_12 rfl (by simp only [List.length_cons]; omega) rfl rfl en101 ok101 rfl hs
theorem d124_15 : decode cX11_debtOf 15 = .ok (.ifCond .ne 5, 3) := by decide +kernel
theorem s124_15 {d : Nat} {st : List Value} {σ : am_I} {ρ : am_R} {g : am_J} {τ : am_T} {Q : am_Q} {x0 x1 x2 x3 x4 x5 : Value} {v : Int32} : AW d 124 15 [x0, x1, x2, x3, x4, x5] (.int v :: st) σ ρ g τ Q = if ¬ v = 0 then AW d 124 20 [x0, x1, x2, x3, x4, x5] (st) σ ρ g τ Q else AW d 124 18 [x0, x1, x2, x3, x4, x5] (st) σ ρ g τ Q := aw_br m124 d124_15 rfl rfl rfl
theorem d124_18 : decode cX11_debtOf 18 = .ok (.iconst (-1), 1) := by decide +kernel
theorem s124_18 {d : Nat} {st : List Value} {σ : am_I} {ρ : am_R} {g : am_J} {τ : am_T} {Q : am_Q} {x0 x1 x2 x3 x4 x5 : Value} : AW d 124 18 [x0, x1, x2, x3, x4, x5] (st) σ ρ g τ Q = AW d 124 19 [x0, x1, x2, x3, x4, x5] (.int (-1) :: st) σ ρ g τ Q := aw_lc m124 d124_18 rfl rfl rfl
theorem d124_19 : decode cX11_debtOf 19 = .ok (.ireturn, 1) := by decide +kernel
theorem s124_19 {d : Nat} {σ : am_I} {ρ : am_R} {g : am_J} {τ : am_T} {Q : am_Q} {x0 x1 x2 x3 x4 x5 : Value} {v : Int32} : AW d 124 19 [x0, x1, x2, x3, x4, x5] ([.int v]) σ ρ g τ Q = Q (some (.int v)) σ ρ g τ := aw_ri m124 d124_19 rfl
theorem d124_20 : decode cX11_debtOf 20 = .ok (.aload_n 0, 1) := by decide +kernel
theorem s124_20 {d : Nat} {st : List Value} {σ : am_I} {ρ : am_R} {g : am_J} {τ : am_T} {Q : am_Q} {x1 x2 x3 x4 x5 : Value} {v : Nat} : AW d 124 20 [.ref v, x1, x2, x3, x4, x5] (st) σ ρ g τ Q = AW d 124 21 [.ref v, x1, x2, x3, x4, x5] (.ref v :: st) σ ρ g τ Q := aw_lc m124 d124_20 rfl rfl rfl
theorem d124_21 : decode cX11_debtOf 21 = .ok (.getfield 10, 3) := by decide +kernel
theorem s124_21 {d : Nat} {st : List Value} {σ : am_I} {ρ : am_R} {g : am_J} {τ : am_T} {Q : am_Q} {x0 x1 x2 x3 x4 x5 : Value} {a : Nat} (ht : τ.1 a = 11) : AW d 124 21 [x0, x1, x2, x3, x4, x5] (.ref a :: st) σ ρ g τ Q = AW d 124 24 [x0, x1, x2, x3, x4, x5] (va_rf (ρ a 0) :: st) σ ρ g τ Q := aw_gr m124 d124_21 rfl rfl rfl ht
theorem d124_24 : decode cX11_debtOf 24 = .ok (.getfield 209, 3) := by decide +kernel
theorem s124_24 {d : Nat} {st : List Value} {σ : am_I} {ρ : am_R} {g : am_J} {τ : am_T} {Q : am_Q} {x0 x1 x2 x3 x4 x5 : Value} {a : Nat} (ht : τ.1 a = 3) : AW d 124 24 [x0, x1, x2, x3, x4, x5] (.ref a :: st) σ ρ g τ Q = AW d 124 27 [x0, x1, x2, x3, x4, x5] (va_rf (ρ a 7) :: st) σ ρ g τ Q := aw_gr m124 d124_24 rfl rfl rfl ht
theorem d124_27 : decode cX11_debtOf 27 = .ok (.iload_n 1, 1) := by decide +kernel
theorem s124_27 {d : Nat} {st : List Value} {σ : am_I} {ρ : am_R} {g : am_J} {τ : am_T} {Q : am_Q} {x0 x2 x3 x4 x5 : Value} {v : Int32} : AW d 124 27 [x0, .int v, x2, x3, x4, x5] (st) σ ρ g τ Q = AW d 124 28 [x0, .int v, x2, x3, x4, x5] (.int v :: st) σ ρ g τ Q := aw_lc m124 d124_27 rfl rfl rfl
theorem d124_28 : decode cX11_debtOf 28 = .ok (.aaload, 1) := by decide +kernel
theorem s124_28 {d : Nat} {st : List Value} {σ : am_I} {ρ : am_R} {g : am_J} {τ : am_T} {Q : am_Q} {x0 x1 x2 x3 x4 x5 : Value} {a : Nat} {j : Int32} (ht : 18 ≤ τ.1 a ∧ τ.1 a ≤ 22) (hj : am_inb j (τ.2.1 a) = true) : AW d 124 28 [x0, x1, x2, x3, x4, x5] (.int j :: .ref a :: st) σ ρ g τ Q = AW d 124 29 [x0, x1, x2, x3, x4, x5] (va_rf (ρ a j.toNatClampNeg) :: st) σ ρ g τ Q := aw_aal m124 d124_28 rfl ht hj
theorem d124_29 : decode cX11_debtOf 29 = .ok (.astore 4, 2) := by decide +kernel
theorem s124_29 {d : Nat} {st : List Value} {σ : am_I} {ρ : am_R} {g : am_J} {τ : am_T} {Q : am_Q} {x0 x1 x2 x4 x5 : Value} {v : Nat} {u : Int32} : AW d 124 29 [x0, x1, x2, .int u, x4, x5] (.ref v :: st) σ ρ g τ Q = AW d 124 31 [x0, x1, x2, .int u, .ref v, x5] (st) σ ρ g τ Q := aw_lc m124 d124_29 rfl rfl rfl
theorem d124_31 : decode cX11_debtOf 31 = .ok (.aload_n 0, 1) := by decide +kernel
theorem s124_31 {d : Nat} {st : List Value} {σ : am_I} {ρ : am_R} {g : am_J} {τ : am_T} {Q : am_Q} {x1 x2 x3 x4 x5 : Value} {v : Nat} : AW d 124 31 [.ref v, x1, x2, x3, x4, x5] (st) σ ρ g τ Q = AW d 124 32 [.ref v, x1, x2, x3, x4, x5] (.ref v :: st) σ ρ g τ Q := aw_lc m124 d124_31 rfl rfl rfl
theorem d124_32 : decode cX11_debtOf 32 = .ok (.getfield 10, 3) := by decide +kernel
theorem s124_32 {d : Nat} {st : List Value} {σ : am_I} {ρ : am_R} {g : am_J} {τ : am_T} {Q : am_Q} {x0 x1 x2 x3 x4 x5 : Value} {a : Nat} (ht : τ.1 a = 11) : AW d 124 32 [x0, x1, x2, x3, x4, x5] (.ref a :: st) σ ρ g τ Q = AW d 124 35 [x0, x1, x2, x3, x4, x5] (va_rf (ρ a 0) :: st) σ ρ g τ Q := aw_gr m124 d124_32 rfl rfl rfl ht
theorem d124_35 : decode cX11_debtOf 35 = .ok (.iload_n 2, 1) := by decide +kernel
theorem s124_35 {d : Nat} {st : List Value} {σ : am_I} {ρ : am_R} {g : am_J} {τ : am_T} {Q : am_Q} {x0 x1 x3 x4 x5 : Value} {v : Int32} : AW d 124 35 [x0, x1, .int v, x3, x4, x5] (st) σ ρ g τ Q = AW d 124 36 [x0, x1, .int v, x3, x4, x5] (.int v :: st) σ ρ g τ Q := aw_lc m124 d124_35 rfl rfl rfl
theorem d124_36 : decode cX11_debtOf 36 = .ok (.invokevirtual 213, 3) := by decide +kernel
theorem s124_36 {d : Nat} {st : List Value} {σ : am_I} {ρ : am_R} {g : am_J} {τ : am_T} {Q : am_Q} {x0 x1 x2 x3 x4 x5 : Value} {p0 : Nat} {p1 : Int32} (ht : τ.1 p0 = 3) (hs : st.length ≤ 4) : AW (d + 1) 124 36 [x0, x1, x2, x3, x4, x5] (.int p1 :: .ref p0 :: st) σ ρ g τ Q = AW d 26 0 [.ref p0, .int p1, am_jk] [] σ ρ g τ (fun r9 σ ρ g τ => AW (d + 1) 124 39 [x0, x1, x2, x3, x4, x5] (r9.toList ++ st) σ ρ g τ Q) := aw_cv m124 d124_36 rfl m26 rfl rfl (by decide) en26 ok26 rfl ht hs
theorem d124_39 : decode cX11_debtOf 39 = .ok (.astore 5, 2) := by decide +kernel
theorem s124_39r {d : Nat} {st : List Value} {σ : am_I} {ρ : am_R} {g : am_J} {τ : am_T} {Q : am_Q} {x0 x1 x2 x3 x5 : Value} {v : Nat} {u : Nat} : AW d 124 39 [x0, x1, x2, x3, .ref u, x5] (.ref v :: st) σ ρ g τ Q = AW d 124 41 [x0, x1, x2, x3, .ref u, .ref v] (st) σ ρ g τ Q := aw_lc m124 d124_39 rfl rfl rfl
theorem d124_41 : decode cX11_debtOf 41 = .ok (.iload_n 3, 1) := by decide +kernel
theorem s124_41 {d : Nat} {st : List Value} {σ : am_I} {ρ : am_R} {g : am_J} {τ : am_T} {Q : am_Q} {x0 x1 x2 x4 x5 : Value} {v : Int32} : AW d 124 41 [x0, x1, x2, .int v, x4, x5] (st) σ ρ g τ Q = AW d 124 42 [x0, x1, x2, .int v, x4, x5] (.int v :: st) σ ρ g τ Q := aw_lc m124 d124_41 rfl rfl rfl
theorem d124_42 : decode cX11_debtOf 42 = .ok (.tableswitch 187 0 12 #[66, 72, 78, 84, 90, 96, 102, 111, 120, 137, 146, 160, 181], 66) := by decide +kernel
theorem s124_42_0 {d : Nat} {st : List Value} {σ : am_I} {ρ : am_R} {g : am_J} {τ : am_T} {Q : am_Q} {x0 x1 x2 x3 x4 x5 : Value} : AW d 124 42 [x0, x1, x2, x3, x4, x5] (.int 0 :: st) σ ρ g τ Q = AW d 124 108 [x0, x1, x2, x3, x4, x5] (st) σ ρ g τ Q := aw_lc m124 d124_42 rfl rfl rfl
theorem s124_42_1 {d : Nat} {st : List Value} {σ : am_I} {ρ : am_R} {g : am_J} {τ : am_T} {Q : am_Q} {x0 x1 x2 x3 x4 x5 : Value} : AW d 124 42 [x0, x1, x2, x3, x4, x5] (.int 1 :: st) σ ρ g τ Q = AW d 124 114 [x0, x1, x2, x3, x4, x5] (st) σ ρ g τ Q := aw_lc m124 d124_42 rfl rfl rfl
theorem s124_42_2 {d : Nat} {st : List Value} {σ : am_I} {ρ : am_R} {g : am_J} {τ : am_T} {Q : am_Q} {x0 x1 x2 x3 x4 x5 : Value} : AW d 124 42 [x0, x1, x2, x3, x4, x5] (.int 2 :: st) σ ρ g τ Q = AW d 124 120 [x0, x1, x2, x3, x4, x5] (st) σ ρ g τ Q := aw_lc m124 d124_42 rfl rfl rfl
theorem s124_42_3 {d : Nat} {st : List Value} {σ : am_I} {ρ : am_R} {g : am_J} {τ : am_T} {Q : am_Q} {x0 x1 x2 x3 x4 x5 : Value} : AW d 124 42 [x0, x1, x2, x3, x4, x5] (.int 3 :: st) σ ρ g τ Q = AW d 124 126 [x0, x1, x2, x3, x4, x5] (st) σ ρ g τ Q := aw_lc m124 d124_42 rfl rfl rfl
theorem s124_42_4 {d : Nat} {st : List Value} {σ : am_I} {ρ : am_R} {g : am_J} {τ : am_T} {Q : am_Q} {x0 x1 x2 x3 x4 x5 : Value} : AW d 124 42 [x0, x1, x2, x3, x4, x5] (.int 4 :: st) σ ρ g τ Q = AW d 124 132 [x0, x1, x2, x3, x4, x5] (st) σ ρ g τ Q := aw_lc m124 d124_42 rfl rfl rfl
theorem s124_42_5 {d : Nat} {st : List Value} {σ : am_I} {ρ : am_R} {g : am_J} {τ : am_T} {Q : am_Q} {x0 x1 x2 x3 x4 x5 : Value} : AW d 124 42 [x0, x1, x2, x3, x4, x5] (.int 5 :: st) σ ρ g τ Q = AW d 124 138 [x0, x1, x2, x3, x4, x5] (st) σ ρ g τ Q := aw_lc m124 d124_42 rfl rfl rfl
theorem s124_42_6 {d : Nat} {st : List Value} {σ : am_I} {ρ : am_R} {g : am_J} {τ : am_T} {Q : am_Q} {x0 x1 x2 x3 x4 x5 : Value} : AW d 124 42 [x0, x1, x2, x3, x4, x5] (.int 6 :: st) σ ρ g τ Q = AW d 124 144 [x0, x1, x2, x3, x4, x5] (st) σ ρ g τ Q := aw_lc m124 d124_42 rfl rfl rfl
theorem s124_42_7 {d : Nat} {st : List Value} {σ : am_I} {ρ : am_R} {g : am_J} {τ : am_T} {Q : am_Q} {x0 x1 x2 x3 x4 x5 : Value} : AW d 124 42 [x0, x1, x2, x3, x4, x5] (.int 7 :: st) σ ρ g τ Q = AW d 124 153 [x0, x1, x2, x3, x4, x5] (st) σ ρ g τ Q := aw_lc m124 d124_42 rfl rfl rfl
theorem s124_42_8 {d : Nat} {st : List Value} {σ : am_I} {ρ : am_R} {g : am_J} {τ : am_T} {Q : am_Q} {x0 x1 x2 x3 x4 x5 : Value} : AW d 124 42 [x0, x1, x2, x3, x4, x5] (.int 8 :: st) σ ρ g τ Q = AW d 124 162 [x0, x1, x2, x3, x4, x5] (st) σ ρ g τ Q := aw_lc m124 d124_42 rfl rfl rfl
theorem s124_42_9 {d : Nat} {st : List Value} {σ : am_I} {ρ : am_R} {g : am_J} {τ : am_T} {Q : am_Q} {x0 x1 x2 x3 x4 x5 : Value} : AW d 124 42 [x0, x1, x2, x3, x4, x5] (.int 9 :: st) σ ρ g τ Q = AW d 124 179 [x0, x1, x2, x3, x4, x5] (st) σ ρ g τ Q := aw_lc m124 d124_42 rfl rfl rfl
theorem s124_42_10 {d : Nat} {st : List Value} {σ : am_I} {ρ : am_R} {g : am_J} {τ : am_T} {Q : am_Q} {x0 x1 x2 x3 x4 x5 : Value} : AW d 124 42 [x0, x1, x2, x3, x4, x5] (.int 10 :: st) σ ρ g τ Q = AW d 124 188 [x0, x1, x2, x3, x4, x5] (st) σ ρ g τ Q := aw_lc m124 d124_42 rfl rfl rfl
theorem s124_42_11 {d : Nat} {st : List Value} {σ : am_I} {ρ : am_R} {g : am_J} {τ : am_T} {Q : am_Q} {x0 x1 x2 x3 x4 x5 : Value} : AW d 124 42 [x0, x1, x2, x3, x4, x5] (.int 11 :: st) σ ρ g τ Q = AW d 124 202 [x0, x1, x2, x3, x4, x5] (st) σ ρ g τ Q := aw_lc m124 d124_42 rfl rfl rfl
theorem s124_42_12 {d : Nat} {st : List Value} {σ : am_I} {ρ : am_R} {g : am_J} {τ : am_T} {Q : am_Q} {x0 x1 x2 x3 x4 x5 : Value} : AW d 124 42 [x0, x1, x2, x3, x4, x5] (.int 12 :: st) σ ρ g τ Q = AW d 124 223 [x0, x1, x2, x3, x4, x5] (st) σ ρ g τ Q := aw_lc m124 d124_42 rfl rfl rfl
theorem s124_42_d {d : Nat} {st : List Value} {σ : am_I} {ρ : am_R} {g : am_J} {τ : am_T} {Q : am_Q} {x0 x1 x2 x3 x4 x5 : Value} {v : Int32} (h : v.toInt < 0 ∨ 12 < v.toInt) : AW d 124 42 [x0, x1, x2, x3, x4, x5] (.int v :: st) σ ρ g τ Q = AW d 124 229 [x0, x1, x2, x3, x4, x5] (st) σ ρ g τ Q := aw_lc m124 d124_42 rfl rfl (by simp only [am_lc]; rw [if_pos h]; rfl)
theorem d124_108 : decode cX11_debtOf 108 = .ok (.aload 4, 2) := by decide +kernel
theorem s124_108 {d : Nat} {st : List Value} {σ : am_I} {ρ : am_R} {g : am_J} {τ : am_T} {Q : am_Q} {x0 x1 x2 x3 x5 : Value} {v : Nat} : AW d 124 108 [x0, x1, x2, x3, .ref v, x5] (st) σ ρ g τ Q = AW d 124 110 [x0, x1, x2, x3, .ref v, x5] (.ref v :: st) σ ρ g τ Q := aw_lc m124 d124_108 rfl rfl rfl
theorem d124_110 : decode cX11_debtOf 110 = .ok (.getfield 217, 3) := by decide +kernel
theorem s124_110 {d : Nat} {st : List Value} {σ : am_I} {ρ : am_R} {g : am_J} {τ : am_T} {Q : am_Q} {x0 x1 x2 x3 x4 x5 : Value} {a : Nat} (ht : τ.1 a = 1) : AW d 124 110 [x0, x1, x2, x3, x4, x5] (.ref a :: st) σ ρ g τ Q = AW d 124 113 [x0, x1, x2, x3, x4, x5] (.int (σ a 1) :: st) σ ρ g τ Q := aw_gi m124 d124_110 rfl rfl rfl ht
theorem d124_113 : decode cX11_debtOf 113 = .ok (.ireturn, 1) := by decide +kernel
theorem s124_113 {d : Nat} {σ : am_I} {ρ : am_R} {g : am_J} {τ : am_T} {Q : am_Q} {x0 x1 x2 x3 x4 x5 : Value} {v : Int32} : AW d 124 113 [x0, x1, x2, x3, x4, x5] ([.int v]) σ ρ g τ Q = Q (some (.int v)) σ ρ g τ := aw_ri m124 d124_113 rfl
theorem d124_114 : decode cX11_debtOf 114 = .ok (.aload 4, 2) := by decide +kernel
theorem s124_114 {d : Nat} {st : List Value} {σ : am_I} {ρ : am_R} {g : am_J} {τ : am_T} {Q : am_Q} {x0 x1 x2 x3 x5 : Value} {v : Nat} : AW d 124 114 [x0, x1, x2, x3, .ref v, x5] (st) σ ρ g τ Q = AW d 124 116 [x0, x1, x2, x3, .ref v, x5] (.ref v :: st) σ ρ g τ Q := aw_lc m124 d124_114 rfl rfl rfl
theorem d124_116 : decode cX11_debtOf 116 = .ok (.getfield 222, 3) := by decide +kernel
theorem s124_116 {d : Nat} {st : List Value} {σ : am_I} {ρ : am_R} {g : am_J} {τ : am_T} {Q : am_Q} {x0 x1 x2 x3 x4 x5 : Value} {a : Nat} (ht : τ.1 a = 1) : AW d 124 116 [x0, x1, x2, x3, x4, x5] (.ref a :: st) σ ρ g τ Q = AW d 124 119 [x0, x1, x2, x3, x4, x5] (.int (σ a 0) :: st) σ ρ g τ Q := aw_gi m124 d124_116 rfl rfl rfl ht
theorem d124_119 : decode cX11_debtOf 119 = .ok (.ireturn, 1) := by decide +kernel
theorem s124_119 {d : Nat} {σ : am_I} {ρ : am_R} {g : am_J} {τ : am_T} {Q : am_Q} {x0 x1 x2 x3 x4 x5 : Value} {v : Int32} : AW d 124 119 [x0, x1, x2, x3, x4, x5] ([.int v]) σ ρ g τ Q = Q (some (.int v)) σ ρ g τ := aw_ri m124 d124_119 rfl
theorem d124_120 : decode cX11_debtOf 120 = .ok (.aload 4, 2) := by decide +kernel
theorem s124_120 {d : Nat} {st : List Value} {σ : am_I} {ρ : am_R} {g : am_J} {τ : am_T} {Q : am_Q} {x0 x1 x2 x3 x5 : Value} {v : Nat} : AW d 124 120 [x0, x1, x2, x3, .ref v, x5] (st) σ ρ g τ Q = AW d 124 122 [x0, x1, x2, x3, .ref v, x5] (.ref v :: st) σ ρ g τ Q := aw_lc m124 d124_120 rfl rfl rfl
theorem d124_122 : decode cX11_debtOf 122 = .ok (.getfield 225, 3) := by decide +kernel
theorem s124_122 {d : Nat} {st : List Value} {σ : am_I} {ρ : am_R} {g : am_J} {τ : am_T} {Q : am_Q} {x0 x1 x2 x3 x4 x5 : Value} {a : Nat} (ht : τ.1 a = 1) : AW d 124 122 [x0, x1, x2, x3, x4, x5] (.ref a :: st) σ ρ g τ Q = AW d 124 125 [x0, x1, x2, x3, x4, x5] (.int (σ a 2) :: st) σ ρ g τ Q := aw_gi m124 d124_122 rfl rfl rfl ht
theorem d124_125 : decode cX11_debtOf 125 = .ok (.ireturn, 1) := by decide +kernel
theorem s124_125 {d : Nat} {σ : am_I} {ρ : am_R} {g : am_J} {τ : am_T} {Q : am_Q} {x0 x1 x2 x3 x4 x5 : Value} {v : Int32} : AW d 124 125 [x0, x1, x2, x3, x4, x5] ([.int v]) σ ρ g τ Q = Q (some (.int v)) σ ρ g τ := aw_ri m124 d124_125 rfl
theorem d124_126 : decode cX11_debtOf 126 = .ok (.aload 4, 2) := by decide +kernel
theorem s124_126 {d : Nat} {st : List Value} {σ : am_I} {ρ : am_R} {g : am_J} {τ : am_T} {Q : am_Q} {x0 x1 x2 x3 x5 : Value} {v : Nat} : AW d 124 126 [x0, x1, x2, x3, .ref v, x5] (st) σ ρ g τ Q = AW d 124 128 [x0, x1, x2, x3, .ref v, x5] (.ref v :: st) σ ρ g τ Q := aw_lc m124 d124_126 rfl rfl rfl
theorem d124_128 : decode cX11_debtOf 128 = .ok (.getfield 228, 3) := by decide +kernel
theorem s124_128 {d : Nat} {st : List Value} {σ : am_I} {ρ : am_R} {g : am_J} {τ : am_T} {Q : am_Q} {x0 x1 x2 x3 x4 x5 : Value} {a : Nat} (ht : τ.1 a = 1) : AW d 124 128 [x0, x1, x2, x3, x4, x5] (.ref a :: st) σ ρ g τ Q = AW d 124 131 [x0, x1, x2, x3, x4, x5] (.int (σ a 3) :: st) σ ρ g τ Q := aw_gi m124 d124_128 rfl rfl rfl ht
theorem d124_131 : decode cX11_debtOf 131 = .ok (.ireturn, 1) := by decide +kernel
theorem s124_131 {d : Nat} {σ : am_I} {ρ : am_R} {g : am_J} {τ : am_T} {Q : am_Q} {x0 x1 x2 x3 x4 x5 : Value} {v : Int32} : AW d 124 131 [x0, x1, x2, x3, x4, x5] ([.int v]) σ ρ g τ Q = Q (some (.int v)) σ ρ g τ := aw_ri m124 d124_131 rfl
theorem d124_132 : decode cX11_debtOf 132 = .ok (.aload 4, 2) := by decide +kernel
theorem s124_132 {d : Nat} {st : List Value} {σ : am_I} {ρ : am_R} {g : am_J} {τ : am_T} {Q : am_Q} {x0 x1 x2 x3 x5 : Value} {v : Nat} : AW d 124 132 [x0, x1, x2, x3, .ref v, x5] (st) σ ρ g τ Q = AW d 124 134 [x0, x1, x2, x3, .ref v, x5] (.ref v :: st) σ ρ g τ Q := aw_lc m124 d124_132 rfl rfl rfl
theorem d124_134 : decode cX11_debtOf 134 = .ok (.getfield 231, 3) := by decide +kernel
theorem s124_134 {d : Nat} {st : List Value} {σ : am_I} {ρ : am_R} {g : am_J} {τ : am_T} {Q : am_Q} {x0 x1 x2 x3 x4 x5 : Value} {a : Nat} (ht : τ.1 a = 1) : AW d 124 134 [x0, x1, x2, x3, x4, x5] (.ref a :: st) σ ρ g τ Q = AW d 124 137 [x0, x1, x2, x3, x4, x5] (.int (σ a 4) :: st) σ ρ g τ Q := aw_gi m124 d124_134 rfl rfl rfl ht
theorem d124_137 : decode cX11_debtOf 137 = .ok (.ireturn, 1) := by decide +kernel
theorem s124_137 {d : Nat} {σ : am_I} {ρ : am_R} {g : am_J} {τ : am_T} {Q : am_Q} {x0 x1 x2 x3 x4 x5 : Value} {v : Int32} : AW d 124 137 [x0, x1, x2, x3, x4, x5] ([.int v]) σ ρ g τ Q = Q (some (.int v)) σ ρ g τ := aw_ri m124 d124_137 rfl
theorem d124_138 : decode cX11_debtOf 138 = .ok (.aload 4, 2) := by decide +kernel
theorem s124_138 {d : Nat} {st : List Value} {σ : am_I} {ρ : am_R} {g : am_J} {τ : am_T} {Q : am_Q} {x0 x1 x2 x3 x5 : Value} {v : Nat} : AW d 124 138 [x0, x1, x2, x3, .ref v, x5] (st) σ ρ g τ Q = AW d 124 140 [x0, x1, x2, x3, .ref v, x5] (.ref v :: st) σ ρ g τ Q := aw_lc m124 d124_138 rfl rfl rfl
theorem d124_140 : decode cX11_debtOf 140 = .ok (.getfield 234, 3) := by decide +kernel
theorem s124_140 {d : Nat} {st : List Value} {σ : am_I} {ρ : am_R} {g : am_J} {τ : am_T} {Q : am_Q} {x0 x1 x2 x3 x4 x5 : Value} {a : Nat} (ht : τ.1 a = 1) : AW d 124 140 [x0, x1, x2, x3, x4, x5] (.ref a :: st) σ ρ g τ Q = AW d 124 143 [x0, x1, x2, x3, x4, x5] (.int (σ a 6) :: st) σ ρ g τ Q := aw_gi m124 d124_140 rfl rfl rfl ht
theorem d124_143 : decode cX11_debtOf 143 = .ok (.ireturn, 1) := by decide +kernel
theorem s124_143 {d : Nat} {σ : am_I} {ρ : am_R} {g : am_J} {τ : am_T} {Q : am_Q} {x0 x1 x2 x3 x4 x5 : Value} {v : Int32} : AW d 124 143 [x0, x1, x2, x3, x4, x5] ([.int v]) σ ρ g τ Q = Q (some (.int v)) σ ρ g τ := aw_ri m124 d124_143 rfl
theorem d124_144 : decode cX11_debtOf 144 = .ok (.aload 5, 2) := by decide +kernel
theorem s124_144 {d : Nat} {st : List Value} {σ : am_I} {ρ : am_R} {g : am_J} {τ : am_T} {Q : am_Q} {x0 x1 x2 x3 x4 : Value} {v : Nat} : AW d 124 144 [x0, x1, x2, x3, x4, .ref v] (st) σ ρ g τ Q = AW d 124 146 [x0, x1, x2, x3, x4, .ref v] (.ref v :: st) σ ρ g τ Q := aw_lc m124 d124_144 rfl rfl rfl
theorem d124_146 : decode cX11_debtOf 146 = .ok (.aload 4, 2) := by decide +kernel
theorem s124_146 {d : Nat} {st : List Value} {σ : am_I} {ρ : am_R} {g : am_J} {τ : am_T} {Q : am_Q} {x0 x1 x2 x3 x5 : Value} {v : Nat} : AW d 124 146 [x0, x1, x2, x3, .ref v, x5] (st) σ ρ g τ Q = AW d 124 148 [x0, x1, x2, x3, .ref v, x5] (.ref v :: st) σ ρ g τ Q := aw_lc m124 d124_146 rfl rfl rfl
theorem d124_148 : decode cX11_debtOf 148 = .ok (.iload_n 2, 1) := by decide +kernel
theorem s124_148 {d : Nat} {st : List Value} {σ : am_I} {ρ : am_R} {g : am_J} {τ : am_T} {Q : am_Q} {x0 x1 x3 x4 x5 : Value} {v : Int32} : AW d 124 148 [x0, x1, .int v, x3, x4, x5] (st) σ ρ g τ Q = AW d 124 149 [x0, x1, .int v, x3, x4, x5] (.int v :: st) σ ρ g τ Q := aw_lc m124 d124_148 rfl rfl rfl
theorem d124_149 : decode cX11_debtOf 149 = .ok (.invokevirtual 237, 3) := by decide +kernel
theorem s124_149 {d : Nat} {st : List Value} {σ : am_I} {ρ : am_R} {g : am_J} {τ : am_T} {Q : am_Q} {x0 x1 x2 x3 x4 x5 : Value} {p0 : Nat} {p1 : Nat} {p2 : Int32} (ht : τ.1 p0 = 9) (hs : st.length ≤ 4) : AW (d + 1) 124 149 [x0, x1, x2, x3, x4, x5] (.int p2 :: .ref p1 :: .ref p0 :: st) σ ρ g τ Q = AW d 70 0 [.ref p0, .ref p1, .int p2, am_jk] [] σ ρ g τ (fun r9 σ ρ g τ => AW (d + 1) 124 152 [x0, x1, x2, x3, x4, x5] (r9.toList ++ st) σ ρ g τ Q) := aw_cv m124 d124_149 rfl m70 rfl rfl (by decide) en70 ok70 rfl ht hs
theorem d124_152 : decode cX11_debtOf 152 = .ok (.ireturn, 1) := by decide +kernel
theorem s124_152 {d : Nat} {σ : am_I} {ρ : am_R} {g : am_J} {τ : am_T} {Q : am_Q} {x0 x1 x2 x3 x4 x5 : Value} {v : Int32} : AW d 124 152 [x0, x1, x2, x3, x4, x5] ([.int v]) σ ρ g τ Q = Q (some (.int v)) σ ρ g τ := aw_ri m124 d124_152 rfl
theorem d124_153 : decode cX11_debtOf 153 = .ok (.aload 5, 2) := by decide +kernel
theorem s124_153 {d : Nat} {st : List Value} {σ : am_I} {ρ : am_R} {g : am_J} {τ : am_T} {Q : am_Q} {x0 x1 x2 x3 x4 : Value} {v : Nat} : AW d 124 153 [x0, x1, x2, x3, x4, .ref v] (st) σ ρ g τ Q = AW d 124 155 [x0, x1, x2, x3, x4, .ref v] (.ref v :: st) σ ρ g τ Q := aw_lc m124 d124_153 rfl rfl rfl
theorem d124_155 : decode cX11_debtOf 155 = .ok (.aload 4, 2) := by decide +kernel
theorem s124_155 {d : Nat} {st : List Value} {σ : am_I} {ρ : am_R} {g : am_J} {τ : am_T} {Q : am_Q} {x0 x1 x2 x3 x5 : Value} {v : Nat} : AW d 124 155 [x0, x1, x2, x3, .ref v, x5] (st) σ ρ g τ Q = AW d 124 157 [x0, x1, x2, x3, .ref v, x5] (.ref v :: st) σ ρ g τ Q := aw_lc m124 d124_155 rfl rfl rfl
theorem d124_157 : decode cX11_debtOf 157 = .ok (.iload_n 2, 1) := by decide +kernel
theorem s124_157 {d : Nat} {st : List Value} {σ : am_I} {ρ : am_R} {g : am_J} {τ : am_T} {Q : am_Q} {x0 x1 x3 x4 x5 : Value} {v : Int32} : AW d 124 157 [x0, x1, .int v, x3, x4, x5] (st) σ ρ g τ Q = AW d 124 158 [x0, x1, .int v, x3, x4, x5] (.int v :: st) σ ρ g τ Q := aw_lc m124 d124_157 rfl rfl rfl
theorem d124_158 : decode cX11_debtOf 158 = .ok (.invokevirtual 243, 3) := by decide +kernel
theorem s124_158 {d : Nat} {st : List Value} {σ : am_I} {ρ : am_R} {g : am_J} {τ : am_T} {Q : am_Q} {x0 x1 x2 x3 x4 x5 : Value} {p0 : Nat} {p1 : Nat} {p2 : Int32} (ht : τ.1 p0 = 9) (hs : st.length ≤ 4) : AW (d + 1) 124 158 [x0, x1, x2, x3, x4, x5] (.int p2 :: .ref p1 :: .ref p0 :: st) σ ρ g τ Q = AW d 71 0 [.ref p0, .ref p1, .int p2, am_jk] [] σ ρ g τ (fun r9 σ ρ g τ => AW (d + 1) 124 161 [x0, x1, x2, x3, x4, x5] (r9.toList ++ st) σ ρ g τ Q) := aw_cv m124 d124_158 rfl m71 rfl rfl (by decide) en71 ok71 rfl ht hs
theorem d124_161 : decode cX11_debtOf 161 = .ok (.ireturn, 1) := by decide +kernel
theorem s124_161 {d : Nat} {σ : am_I} {ρ : am_R} {g : am_J} {τ : am_T} {Q : am_Q} {x0 x1 x2 x3 x4 x5 : Value} {v : Int32} : AW d 124 161 [x0, x1, x2, x3, x4, x5] ([.int v]) σ ρ g τ Q = Q (some (.int v)) σ ρ g τ := aw_ri m124 d124_161 rfl
theorem d124_162 : decode cX11_debtOf 162 = .ok (.aload 5, 2) := by decide +kernel
theorem s124_162 {d : Nat} {st : List Value} {σ : am_I} {ρ : am_R} {g : am_J} {τ : am_T} {Q : am_Q} {x0 x1 x2 x3 x4 : Value} {v : Nat} : AW d 124 162 [x0, x1, x2, x3, x4, .ref v] (st) σ ρ g τ Q = AW d 124 164 [x0, x1, x2, x3, x4, .ref v] (.ref v :: st) σ ρ g τ Q := aw_lc m124 d124_162 rfl rfl rfl
theorem d124_164 : decode cX11_debtOf 164 = .ok (.aload 4, 2) := by decide +kernel
theorem s124_164 {d : Nat} {st : List Value} {σ : am_I} {ρ : am_R} {g : am_J} {τ : am_T} {Q : am_Q} {x0 x1 x2 x3 x5 : Value} {v : Nat} : AW d 124 164 [x0, x1, x2, x3, .ref v, x5] (st) σ ρ g τ Q = AW d 124 166 [x0, x1, x2, x3, .ref v, x5] (.ref v :: st) σ ρ g τ Q := aw_lc m124 d124_164 rfl rfl rfl
theorem d124_166 : decode cX11_debtOf 166 = .ok (.iload_n 2, 1) := by decide +kernel
theorem s124_166 {d : Nat} {st : List Value} {σ : am_I} {ρ : am_R} {g : am_J} {τ : am_T} {Q : am_Q} {x0 x1 x3 x4 x5 : Value} {v : Int32} : AW d 124 166 [x0, x1, .int v, x3, x4, x5] (st) σ ρ g τ Q = AW d 124 167 [x0, x1, .int v, x3, x4, x5] (.int v :: st) σ ρ g τ Q := aw_lc m124 d124_166 rfl rfl rfl
theorem d124_167 : decode cX11_debtOf 167 = .ok (.invokevirtual 246, 3) := by decide +kernel
theorem s124_167 {d : Nat} {st : List Value} {σ : am_I} {ρ : am_R} {g : am_J} {τ : am_T} {Q : am_Q} {x0 x1 x2 x3 x4 x5 : Value} {p0 : Nat} {p1 : Nat} {p2 : Int32} (ht : τ.1 p0 = 9) (hs : st.length ≤ 4) : AW (d + 1) 124 167 [x0, x1, x2, x3, x4, x5] (.int p2 :: .ref p1 :: .ref p0 :: st) σ ρ g τ Q = AW d 72 0 [.ref p0, .ref p1, .int p2] [] σ ρ g τ (fun r9 σ ρ g τ => AW (d + 1) 124 170 [x0, x1, x2, x3, x4, x5] (r9.toList ++ st) σ ρ g τ Q) := aw_cv m124 d124_167 rfl m72 rfl rfl (by decide) en72 ok72 rfl ht hs
theorem d124_170 : decode cX11_debtOf 170 = .ok (.ifCond .eq 7, 3) := by decide +kernel
theorem s124_170 {d : Nat} {st : List Value} {σ : am_I} {ρ : am_R} {g : am_J} {τ : am_T} {Q : am_Q} {x0 x1 x2 x3 x4 x5 : Value} {v : Int32} : AW d 124 170 [x0, x1, x2, x3, x4, x5] (.int v :: st) σ ρ g τ Q = if v = 0 then AW d 124 177 [x0, x1, x2, x3, x4, x5] (st) σ ρ g τ Q else AW d 124 173 [x0, x1, x2, x3, x4, x5] (st) σ ρ g τ Q := aw_br m124 d124_170 rfl rfl rfl
theorem d124_173 : decode cX11_debtOf 173 = .ok (.iconst 1, 1) := by decide +kernel
theorem s124_173 {d : Nat} {st : List Value} {σ : am_I} {ρ : am_R} {g : am_J} {τ : am_T} {Q : am_Q} {x0 x1 x2 x3 x4 x5 : Value} : AW d 124 173 [x0, x1, x2, x3, x4, x5] (st) σ ρ g τ Q = AW d 124 174 [x0, x1, x2, x3, x4, x5] (.int 1 :: st) σ ρ g τ Q := aw_lc m124 d124_173 rfl rfl rfl
theorem d124_174 : decode cX11_debtOf 174 = .ok (.goto 4, 3) := by decide +kernel
theorem s124_174 {d : Nat} {st : List Value} {σ : am_I} {ρ : am_R} {g : am_J} {τ : am_T} {Q : am_Q} {x0 x1 x2 x3 x4 x5 : Value} : AW d 124 174 [x0, x1, x2, x3, x4, x5] (st) σ ρ g τ Q = AW d 124 178 [x0, x1, x2, x3, x4, x5] (st) σ ρ g τ Q := aw_lc m124 d124_174 rfl rfl rfl
theorem d124_177 : decode cX11_debtOf 177 = .ok (.iconst 0, 1) := by decide +kernel
theorem s124_177 {d : Nat} {st : List Value} {σ : am_I} {ρ : am_R} {g : am_J} {τ : am_T} {Q : am_Q} {x0 x1 x2 x3 x4 x5 : Value} : AW d 124 177 [x0, x1, x2, x3, x4, x5] (st) σ ρ g τ Q = AW d 124 178 [x0, x1, x2, x3, x4, x5] (.int 0 :: st) σ ρ g τ Q := aw_lc m124 d124_177 rfl rfl rfl
theorem d124_178 : decode cX11_debtOf 178 = .ok (.ireturn, 1) := by decide +kernel
theorem s124_178 {d : Nat} {σ : am_I} {ρ : am_R} {g : am_J} {τ : am_T} {Q : am_Q} {x0 x1 x2 x3 x4 x5 : Value} {v : Int32} : AW d 124 178 [x0, x1, x2, x3, x4, x5] ([.int v]) σ ρ g τ Q = Q (some (.int v)) σ ρ g τ := aw_ri m124 d124_178 rfl
theorem d124_179 : decode cX11_debtOf 179 = .ok (.aload 5, 2) := by decide +kernel
theorem s124_179 {d : Nat} {st : List Value} {σ : am_I} {ρ : am_R} {g : am_J} {τ : am_T} {Q : am_Q} {x0 x1 x2 x3 x4 : Value} {v : Nat} : AW d 124 179 [x0, x1, x2, x3, x4, .ref v] (st) σ ρ g τ Q = AW d 124 181 [x0, x1, x2, x3, x4, .ref v] (.ref v :: st) σ ρ g τ Q := aw_lc m124 d124_179 rfl rfl rfl
theorem d124_181 : decode cX11_debtOf 181 = .ok (.aload 4, 2) := by decide +kernel
theorem s124_181 {d : Nat} {st : List Value} {σ : am_I} {ρ : am_R} {g : am_J} {τ : am_T} {Q : am_Q} {x0 x1 x2 x3 x5 : Value} {v : Nat} : AW d 124 181 [x0, x1, x2, x3, .ref v, x5] (st) σ ρ g τ Q = AW d 124 183 [x0, x1, x2, x3, .ref v, x5] (.ref v :: st) σ ρ g τ Q := aw_lc m124 d124_181 rfl rfl rfl
theorem d124_183 : decode cX11_debtOf 183 = .ok (.iload_n 2, 1) := by decide +kernel
theorem s124_183 {d : Nat} {st : List Value} {σ : am_I} {ρ : am_R} {g : am_J} {τ : am_T} {Q : am_Q} {x0 x1 x3 x4 x5 : Value} {v : Int32} : AW d 124 183 [x0, x1, .int v, x3, x4, x5] (st) σ ρ g τ Q = AW d 124 184 [x0, x1, .int v, x3, x4, x5] (.int v :: st) σ ρ g τ Q := aw_lc m124 d124_183 rfl rfl rfl
theorem d124_184 : decode cX11_debtOf 184 = .ok (.invokevirtual 250, 3) := by decide +kernel
theorem s124_184 {d : Nat} {st : List Value} {σ : am_I} {ρ : am_R} {g : am_J} {τ : am_T} {Q : am_Q} {x0 x1 x2 x3 x4 x5 : Value} {p0 : Nat} {p1 : Nat} {p2 : Int32} (ht : τ.1 p0 = 9) (hs : st.length ≤ 4) : AW (d + 1) 124 184 [x0, x1, x2, x3, x4, x5] (.int p2 :: .ref p1 :: .ref p0 :: st) σ ρ g τ Q = AW d 73 0 [.ref p0, .ref p1, .int p2] [] σ ρ g τ (fun r9 σ ρ g τ => AW (d + 1) 124 187 [x0, x1, x2, x3, x4, x5] (r9.toList ++ st) σ ρ g τ Q) := aw_cv m124 d124_184 rfl m73 rfl rfl (by decide) en73 ok73 rfl ht hs
theorem d124_187 : decode cX11_debtOf 187 = .ok (.ireturn, 1) := by decide +kernel
theorem s124_187 {d : Nat} {σ : am_I} {ρ : am_R} {g : am_J} {τ : am_T} {Q : am_Q} {x0 x1 x2 x3 x4 x5 : Value} {v : Int32} : AW d 124 187 [x0, x1, x2, x3, x4, x5] ([.int v]) σ ρ g τ Q = Q (some (.int v)) σ ρ g τ := aw_ri m124 d124_187 rfl
theorem d124_188 : decode cX11_debtOf 188 = .ok (.aload 4, 2) := by decide +kernel
theorem s124_188 {d : Nat} {st : List Value} {σ : am_I} {ρ : am_R} {g : am_J} {τ : am_T} {Q : am_Q} {x0 x1 x2 x3 x5 : Value} {v : Nat} : AW d 124 188 [x0, x1, x2, x3, .ref v, x5] (st) σ ρ g τ Q = AW d 124 190 [x0, x1, x2, x3, .ref v, x5] (.ref v :: st) σ ρ g τ Q := aw_lc m124 d124_188 rfl rfl rfl
theorem d124_190 : decode cX11_debtOf 190 = .ok (.getfield 253, 3) := by decide +kernel
theorem s124_190 {d : Nat} {st : List Value} {σ : am_I} {ρ : am_R} {g : am_J} {τ : am_T} {Q : am_Q} {x0 x1 x2 x3 x4 x5 : Value} {a : Nat} (ht : τ.1 a = 1) : AW d 124 190 [x0, x1, x2, x3, x4, x5] (.ref a :: st) σ ρ g τ Q = AW d 124 193 [x0, x1, x2, x3, x4, x5] (.int (σ a 8) :: st) σ ρ g τ Q := aw_gi m124 d124_190 rfl rfl rfl ht
theorem d124_193 : decode cX11_debtOf 193 = .ok (.ifCond .eq 7, 3) := by decide +kernel
theorem s124_193 {d : Nat} {st : List Value} {σ : am_I} {ρ : am_R} {g : am_J} {τ : am_T} {Q : am_Q} {x0 x1 x2 x3 x4 x5 : Value} {v : Int32} : AW d 124 193 [x0, x1, x2, x3, x4, x5] (.int v :: st) σ ρ g τ Q = if v = 0 then AW d 124 200 [x0, x1, x2, x3, x4, x5] (st) σ ρ g τ Q else AW d 124 196 [x0, x1, x2, x3, x4, x5] (st) σ ρ g τ Q := aw_br m124 d124_193 rfl rfl rfl
theorem d124_196 : decode cX11_debtOf 196 = .ok (.iconst 1, 1) := by decide +kernel
theorem s124_196 {d : Nat} {st : List Value} {σ : am_I} {ρ : am_R} {g : am_J} {τ : am_T} {Q : am_Q} {x0 x1 x2 x3 x4 x5 : Value} : AW d 124 196 [x0, x1, x2, x3, x4, x5] (st) σ ρ g τ Q = AW d 124 197 [x0, x1, x2, x3, x4, x5] (.int 1 :: st) σ ρ g τ Q := aw_lc m124 d124_196 rfl rfl rfl
theorem d124_197 : decode cX11_debtOf 197 = .ok (.goto 4, 3) := by decide +kernel
theorem s124_197 {d : Nat} {st : List Value} {σ : am_I} {ρ : am_R} {g : am_J} {τ : am_T} {Q : am_Q} {x0 x1 x2 x3 x4 x5 : Value} : AW d 124 197 [x0, x1, x2, x3, x4, x5] (st) σ ρ g τ Q = AW d 124 201 [x0, x1, x2, x3, x4, x5] (st) σ ρ g τ Q := aw_lc m124 d124_197 rfl rfl rfl
theorem d124_200 : decode cX11_debtOf 200 = .ok (.iconst 0, 1) := by decide +kernel
theorem s124_200 {d : Nat} {st : List Value} {σ : am_I} {ρ : am_R} {g : am_J} {τ : am_T} {Q : am_Q} {x0 x1 x2 x3 x4 x5 : Value} : AW d 124 200 [x0, x1, x2, x3, x4, x5] (st) σ ρ g τ Q = AW d 124 201 [x0, x1, x2, x3, x4, x5] (.int 0 :: st) σ ρ g τ Q := aw_lc m124 d124_200 rfl rfl rfl
theorem d124_201 : decode cX11_debtOf 201 = .ok (.ireturn, 1) := by decide +kernel
theorem s124_201 {d : Nat} {σ : am_I} {ρ : am_R} {g : am_J} {τ : am_T} {Q : am_Q} {x0 x1 x2 x3 x4 x5 : Value} {v : Int32} : AW d 124 201 [x0, x1, x2, x3, x4, x5] ([.int v]) σ ρ g τ Q = Q (some (.int v)) σ ρ g τ := aw_ri m124 d124_201 rfl
theorem d124_202 : decode cX11_debtOf 202 = .ok (.aload 4, 2) := by decide +kernel
theorem s124_202 {d : Nat} {st : List Value} {σ : am_I} {ρ : am_R} {g : am_J} {τ : am_T} {Q : am_Q} {x0 x1 x2 x3 x5 : Value} {v : Nat} : AW d 124 202 [x0, x1, x2, x3, .ref v, x5] (st) σ ρ g τ Q = AW d 124 204 [x0, x1, x2, x3, .ref v, x5] (.ref v :: st) σ ρ g τ Q := aw_lc m124 d124_202 rfl rfl rfl
theorem d124_204 : decode cX11_debtOf 204 = .ok (.getfield 217, 3) := by decide +kernel
theorem s124_204 {d : Nat} {st : List Value} {σ : am_I} {ρ : am_R} {g : am_J} {τ : am_T} {Q : am_Q} {x0 x1 x2 x3 x4 x5 : Value} {a : Nat} (ht : τ.1 a = 1) : AW d 124 204 [x0, x1, x2, x3, x4, x5] (.ref a :: st) σ ρ g τ Q = AW d 124 207 [x0, x1, x2, x3, x4, x5] (.int (σ a 1) :: st) σ ρ g τ Q := aw_gi m124 d124_204 rfl rfl rfl ht
theorem d124_207 : decode cX11_debtOf 207 = .ok (.ifCond .ne 13, 3) := by decide +kernel
theorem s124_207 {d : Nat} {st : List Value} {σ : am_I} {ρ : am_R} {g : am_J} {τ : am_T} {Q : am_Q} {x0 x1 x2 x3 x4 x5 : Value} {v : Int32} : AW d 124 207 [x0, x1, x2, x3, x4, x5] (.int v :: st) σ ρ g τ Q = if ¬ v = 0 then AW d 124 220 [x0, x1, x2, x3, x4, x5] (st) σ ρ g τ Q else AW d 124 210 [x0, x1, x2, x3, x4, x5] (st) σ ρ g τ Q := aw_br m124 d124_207 rfl rfl rfl
theorem d124_210 : decode cX11_debtOf 210 = .ok (.aload 4, 2) := by decide +kernel
theorem s124_210 {d : Nat} {st : List Value} {σ : am_I} {ρ : am_R} {g : am_J} {τ : am_T} {Q : am_Q} {x0 x1 x2 x3 x5 : Value} {v : Nat} : AW d 124 210 [x0, x1, x2, x3, .ref v, x5] (st) σ ρ g τ Q = AW d 124 212 [x0, x1, x2, x3, .ref v, x5] (.ref v :: st) σ ρ g τ Q := aw_lc m124 d124_210 rfl rfl rfl
theorem d124_212 : decode cX11_debtOf 212 = .ok (.getfield 256, 3) := by decide +kernel
theorem s124_212 {d : Nat} {st : List Value} {σ : am_I} {ρ : am_R} {g : am_J} {τ : am_T} {Q : am_Q} {x0 x1 x2 x3 x4 x5 : Value} {a : Nat} (ht : τ.1 a = 1) : AW d 124 212 [x0, x1, x2, x3, x4, x5] (.ref a :: st) σ ρ g τ Q = AW d 124 215 [x0, x1, x2, x3, x4, x5] (va_rf (ρ a 9) :: st) σ ρ g τ Q := aw_gr m124 d124_212 rfl rfl rfl ht
theorem d124_215 : decode cX11_debtOf 215 = .ok (.iconst 0, 1) := by decide +kernel
theorem s124_215 {d : Nat} {st : List Value} {σ : am_I} {ρ : am_R} {g : am_J} {τ : am_T} {Q : am_Q} {x0 x1 x2 x3 x4 x5 : Value} : AW d 124 215 [x0, x1, x2, x3, x4, x5] (st) σ ρ g τ Q = AW d 124 216 [x0, x1, x2, x3, x4, x5] (.int 0 :: st) σ ρ g τ Q := aw_lc m124 d124_215 rfl rfl rfl
theorem d124_216 : decode cX11_debtOf 216 = .ok (.iaload, 1) := by decide +kernel
theorem s124_216 {d : Nat} {st : List Value} {σ : am_I} {ρ : am_R} {g : am_J} {τ : am_T} {Q : am_Q} {x0 x1 x2 x3 x4 x5 : Value} {a : Nat} {j : Int32} (ht : τ.1 a = 15) (hj : am_inb j (τ.2.1 a) = true) : AW d 124 216 [x0, x1, x2, x3, x4, x5] (.int j :: .ref a :: st) σ ρ g τ Q = AW d 124 217 [x0, x1, x2, x3, x4, x5] (.int (σ a j.toNatClampNeg) :: st) σ ρ g τ Q := aw_ial m124 d124_216 rfl ht hj
theorem d124_217 : decode cX11_debtOf 217 = .ok (.goto 5, 3) := by decide +kernel
theorem s124_217 {d : Nat} {st : List Value} {σ : am_I} {ρ : am_R} {g : am_J} {τ : am_T} {Q : am_Q} {x0 x1 x2 x3 x4 x5 : Value} : AW d 124 217 [x0, x1, x2, x3, x4, x5] (st) σ ρ g τ Q = AW d 124 222 [x0, x1, x2, x3, x4, x5] (st) σ ρ g τ Q := aw_lc m124 d124_217 rfl rfl rfl
theorem d124_220 : decode cX11_debtOf 220 = .ok (.bipush (-3), 2) := by decide +kernel
theorem s124_220 {d : Nat} {st : List Value} {σ : am_I} {ρ : am_R} {g : am_J} {τ : am_T} {Q : am_Q} {x0 x1 x2 x3 x4 x5 : Value} : AW d 124 220 [x0, x1, x2, x3, x4, x5] (st) σ ρ g τ Q = AW d 124 222 [x0, x1, x2, x3, x4, x5] (.int (-3) :: st) σ ρ g τ Q := aw_lc m124 d124_220 rfl rfl rfl
theorem d124_222 : decode cX11_debtOf 222 = .ok (.ireturn, 1) := by decide +kernel
theorem s124_222 {d : Nat} {σ : am_I} {ρ : am_R} {g : am_J} {τ : am_T} {Q : am_Q} {x0 x1 x2 x3 x4 x5 : Value} {v : Int32} : AW d 124 222 [x0, x1, x2, x3, x4, x5] ([.int v]) σ ρ g τ Q = Q (some (.int v)) σ ρ g τ := aw_ri m124 d124_222 rfl
theorem d124_223 : decode cX11_debtOf 223 = .ok (.aload 4, 2) := by decide +kernel
theorem s124_223 {d : Nat} {st : List Value} {σ : am_I} {ρ : am_R} {g : am_J} {τ : am_T} {Q : am_Q} {x0 x1 x2 x3 x5 : Value} {v : Nat} : AW d 124 223 [x0, x1, x2, x3, .ref v, x5] (st) σ ρ g τ Q = AW d 124 225 [x0, x1, x2, x3, .ref v, x5] (.ref v :: st) σ ρ g τ Q := aw_lc m124 d124_223 rfl rfl rfl
theorem d124_225 : decode cX11_debtOf 225 = .ok (.getfield 259, 3) := by decide +kernel
theorem s124_225 {d : Nat} {st : List Value} {σ : am_I} {ρ : am_R} {g : am_J} {τ : am_T} {Q : am_Q} {x0 x1 x2 x3 x4 x5 : Value} {a : Nat} (ht : τ.1 a = 1) : AW d 124 225 [x0, x1, x2, x3, x4, x5] (.ref a :: st) σ ρ g τ Q = AW d 124 228 [x0, x1, x2, x3, x4, x5] (.int (σ a 7) :: st) σ ρ g τ Q := aw_gi m124 d124_225 rfl rfl rfl ht
theorem d124_228 : decode cX11_debtOf 228 = .ok (.ireturn, 1) := by decide +kernel
theorem s124_228 {d : Nat} {σ : am_I} {ρ : am_R} {g : am_J} {τ : am_T} {Q : am_Q} {x0 x1 x2 x3 x4 x5 : Value} {v : Int32} : AW d 124 228 [x0, x1, x2, x3, x4, x5] ([.int v]) σ ρ g τ Q = Q (some (.int v)) σ ρ g τ := aw_ri m124 d124_228 rfl
theorem d124_229 : decode cX11_debtOf 229 = .ok (.iconst (-1), 1) := by decide +kernel
theorem s124_229 {d : Nat} {st : List Value} {σ : am_I} {ρ : am_R} {g : am_J} {τ : am_T} {Q : am_Q} {x0 x1 x2 x3 x4 x5 : Value} : AW d 124 229 [x0, x1, x2, x3, x4, x5] (st) σ ρ g τ Q = AW d 124 230 [x0, x1, x2, x3, x4, x5] (.int (-1) :: st) σ ρ g τ Q := aw_lc m124 d124_229 rfl rfl rfl
theorem d124_230 : decode cX11_debtOf 230 = .ok (.ireturn, 1) := by decide +kernel
theorem s124_230 {d : Nat} {σ : am_I} {ρ : am_R} {g : am_J} {τ : am_T} {Q : am_Q} {x0 x1 x2 x3 x4 x5 : Value} {v : Int32} : AW d 124 230 [x0, x1, x2, x3, x4, x5] ([.int v]) σ ρ g τ Q = Q (some (.int v)) σ ρ g τ := aw_ri m124 d124_230 rfl
theorem d125_0 : decode cX11_voids 0 = .ok (.aload_n 0, 1) := by decide +kernel
theorem s125_0 {d : Nat} {st : List Value} {σ : am_I} {ρ : am_R} {g : am_J} {τ : am_T} {Q : am_Q} {x1 : Value} {v : Nat} : AW d 125 0 [.ref v, x1] (st) σ ρ g τ Q = AW d 125 1 [.ref v, x1] (.ref v :: st) σ ρ g τ Q := aw_lc m125 d125_0 rfl rfl rfl
theorem d125_1 : decode cX11_voids 1 = .ok (.getfield 10, 3) := by decide +kernel
theorem s125_1 {d : Nat} {st : List Value} {σ : am_I} {ρ : am_R} {g : am_J} {τ : am_T} {Q : am_Q} {x0 x1 : Value} {a : Nat} (ht : τ.1 a = 11) : AW d 125 1 [x0, x1] (.ref a :: st) σ ρ g τ Q = AW d 125 4 [x0, x1] (va_rf (ρ a 0) :: st) σ ρ g τ Q := aw_gr m125 d125_1 rfl rfl rfl ht
theorem d125_4 : decode cX11_voids 4 = .ok (.iload_n 1, 1) := by decide +kernel
theorem s125_4 {d : Nat} {st : List Value} {σ : am_I} {ρ : am_R} {g : am_J} {τ : am_T} {Q : am_Q} {x0 : Value} {v : Int32} : AW d 125 4 [x0, .int v] (st) σ ρ g τ Q = AW d 125 5 [x0, .int v] (.int v :: st) σ ρ g τ Q := aw_lc m125 d125_4 rfl rfl rfl
theorem d125_5 : decode cX11_voids 5 = .ok (.invokevirtual 206, 3) := by decide +kernel
theorem s125_5 {d : Nat} {st : List Value} {σ : am_I} {ρ : am_R} {g : am_J} {τ : am_T} {Q : am_Q} {x0 x1 : Value} {p0 : Nat} {p1 : Int32} (ht : τ.1 p0 = 3) (hs : st.length ≤ 4) : AW (d + 1) 125 5 [x0, x1] (.int p1 :: .ref p0 :: st) σ ρ g τ Q = AW d 24 0 [.ref p0, .int p1] [] σ ρ g τ (fun r9 σ ρ g τ => AW (d + 1) 125 8 [x0, x1] (r9.toList ++ st) σ ρ g τ Q) := aw_cv m125 d125_5 rfl m24 rfl rfl (by decide) en24 ok24 rfl ht hs
theorem d125_8 : decode cX11_voids 8 = .ok (.ifCond .ne 5, 3) := by decide +kernel
theorem s125_8 {d : Nat} {st : List Value} {σ : am_I} {ρ : am_R} {g : am_J} {τ : am_T} {Q : am_Q} {x0 x1 : Value} {v : Int32} : AW d 125 8 [x0, x1] (.int v :: st) σ ρ g τ Q = if ¬ v = 0 then AW d 125 13 [x0, x1] (st) σ ρ g τ Q else AW d 125 11 [x0, x1] (st) σ ρ g τ Q := aw_br m125 d125_8 rfl rfl rfl
theorem d125_11 : decode cX11_voids 11 = .ok (.iconst (-1), 1) := by decide +kernel
theorem s125_11 {d : Nat} {st : List Value} {σ : am_I} {ρ : am_R} {g : am_J} {τ : am_T} {Q : am_Q} {x0 x1 : Value} : AW d 125 11 [x0, x1] (st) σ ρ g τ Q = AW d 125 12 [x0, x1] (.int (-1) :: st) σ ρ g τ Q := aw_lc m125 d125_11 rfl rfl rfl
theorem d125_12 : decode cX11_voids 12 = .ok (.ireturn, 1) := by decide +kernel
theorem s125_12 {d : Nat} {σ : am_I} {ρ : am_R} {g : am_J} {τ : am_T} {Q : am_Q} {x0 x1 : Value} {v : Int32} : AW d 125 12 [x0, x1] ([.int v]) σ ρ g τ Q = Q (some (.int v)) σ ρ g τ := aw_ri m125 d125_12 rfl
theorem d125_13 : decode cX11_voids 13 = .ok (.aload_n 0, 1) := by decide +kernel
theorem s125_13 {d : Nat} {st : List Value} {σ : am_I} {ρ : am_R} {g : am_J} {τ : am_T} {Q : am_Q} {x1 : Value} {v : Nat} : AW d 125 13 [.ref v, x1] (st) σ ρ g τ Q = AW d 125 14 [.ref v, x1] (.ref v :: st) σ ρ g τ Q := aw_lc m125 d125_13 rfl rfl rfl
theorem d125_14 : decode cX11_voids 14 = .ok (.getfield 10, 3) := by decide +kernel
theorem s125_14 {d : Nat} {st : List Value} {σ : am_I} {ρ : am_R} {g : am_J} {τ : am_T} {Q : am_Q} {x0 x1 : Value} {a : Nat} (ht : τ.1 a = 11) : AW d 125 14 [x0, x1] (.ref a :: st) σ ρ g τ Q = AW d 125 17 [x0, x1] (va_rf (ρ a 0) :: st) σ ρ g τ Q := aw_gr m125 d125_14 rfl rfl rfl ht
theorem d125_17 : decode cX11_voids 17 = .ok (.getfield 209, 3) := by decide +kernel
theorem s125_17 {d : Nat} {st : List Value} {σ : am_I} {ρ : am_R} {g : am_J} {τ : am_T} {Q : am_Q} {x0 x1 : Value} {a : Nat} (ht : τ.1 a = 3) : AW d 125 17 [x0, x1] (.ref a :: st) σ ρ g τ Q = AW d 125 20 [x0, x1] (va_rf (ρ a 7) :: st) σ ρ g τ Q := aw_gr m125 d125_17 rfl rfl rfl ht
theorem d125_20 : decode cX11_voids 20 = .ok (.iload_n 1, 1) := by decide +kernel
theorem s125_20 {d : Nat} {st : List Value} {σ : am_I} {ρ : am_R} {g : am_J} {τ : am_T} {Q : am_Q} {x0 : Value} {v : Int32} : AW d 125 20 [x0, .int v] (st) σ ρ g τ Q = AW d 125 21 [x0, .int v] (.int v :: st) σ ρ g τ Q := aw_lc m125 d125_20 rfl rfl rfl
theorem d125_21 : decode cX11_voids 21 = .ok (.aaload, 1) := by decide +kernel
theorem s125_21 {d : Nat} {st : List Value} {σ : am_I} {ρ : am_R} {g : am_J} {τ : am_T} {Q : am_Q} {x0 x1 : Value} {a : Nat} {j : Int32} (ht : 18 ≤ τ.1 a ∧ τ.1 a ≤ 22) (hj : am_inb j (τ.2.1 a) = true) : AW d 125 21 [x0, x1] (.int j :: .ref a :: st) σ ρ g τ Q = AW d 125 22 [x0, x1] (va_rf (ρ a j.toNatClampNeg) :: st) σ ρ g τ Q := aw_aal m125 d125_21 rfl ht hj
theorem d125_22 : decode cX11_voids 22 = .ok (.getfield 253, 3) := by decide +kernel
theorem s125_22 {d : Nat} {st : List Value} {σ : am_I} {ρ : am_R} {g : am_J} {τ : am_T} {Q : am_Q} {x0 x1 : Value} {a : Nat} (ht : τ.1 a = 1) : AW d 125 22 [x0, x1] (.ref a :: st) σ ρ g τ Q = AW d 125 25 [x0, x1] (.int (σ a 8) :: st) σ ρ g τ Q := aw_gi m125 d125_22 rfl rfl rfl ht
theorem d125_25 : decode cX11_voids 25 = .ok (.ifCond .eq 6, 3) := by decide +kernel
theorem s125_25 {d : Nat} {st : List Value} {σ : am_I} {ρ : am_R} {g : am_J} {τ : am_T} {Q : am_Q} {x0 x1 : Value} {v : Int32} : AW d 125 25 [x0, x1] (.int v :: st) σ ρ g τ Q = if v = 0 then AW d 125 31 [x0, x1] (st) σ ρ g τ Q else AW d 125 28 [x0, x1] (st) σ ρ g τ Q := aw_br m125 d125_25 rfl rfl rfl
theorem d125_28 : decode cX11_voids 28 = .ok (.bipush (-4), 2) := by decide +kernel
theorem s125_28 {d : Nat} {st : List Value} {σ : am_I} {ρ : am_R} {g : am_J} {τ : am_T} {Q : am_Q} {x0 x1 : Value} : AW d 125 28 [x0, x1] (st) σ ρ g τ Q = AW d 125 30 [x0, x1] (.int (-4) :: st) σ ρ g τ Q := aw_lc m125 d125_28 rfl rfl rfl
theorem d125_30 : decode cX11_voids 30 = .ok (.ireturn, 1) := by decide +kernel
theorem s125_30 {d : Nat} {σ : am_I} {ρ : am_R} {g : am_J} {τ : am_T} {Q : am_Q} {x0 x1 : Value} {v : Int32} : AW d 125 30 [x0, x1] ([.int v]) σ ρ g τ Q = Q (some (.int v)) σ ρ g τ := aw_ri m125 d125_30 rfl
theorem d125_31 : decode cX11_voids 31 = .ok (.aload_n 0, 1) := by decide +kernel
theorem s125_31 {d : Nat} {st : List Value} {σ : am_I} {ρ : am_R} {g : am_J} {τ : am_T} {Q : am_Q} {x1 : Value} {v : Nat} : AW d 125 31 [.ref v, x1] (st) σ ρ g τ Q = AW d 125 32 [.ref v, x1] (.ref v :: st) σ ρ g τ Q := aw_lc m125 d125_31 rfl rfl rfl
theorem d125_32 : decode cX11_voids 32 = .ok (.getfield 10, 3) := by decide +kernel
theorem s125_32 {d : Nat} {st : List Value} {σ : am_I} {ρ : am_R} {g : am_J} {τ : am_T} {Q : am_Q} {x0 x1 : Value} {a : Nat} (ht : τ.1 a = 11) : AW d 125 32 [x0, x1] (.ref a :: st) σ ρ g τ Q = AW d 125 35 [x0, x1] (va_rf (ρ a 0) :: st) σ ρ g τ Q := aw_gr m125 d125_32 rfl rfl rfl ht
theorem d125_35 : decode cX11_voids 35 = .ok (.getfield 209, 3) := by decide +kernel
theorem s125_35 {d : Nat} {st : List Value} {σ : am_I} {ρ : am_R} {g : am_J} {τ : am_T} {Q : am_Q} {x0 x1 : Value} {a : Nat} (ht : τ.1 a = 3) : AW d 125 35 [x0, x1] (.ref a :: st) σ ρ g τ Q = AW d 125 38 [x0, x1] (va_rf (ρ a 7) :: st) σ ρ g τ Q := aw_gr m125 d125_35 rfl rfl rfl ht
theorem d125_38 : decode cX11_voids 38 = .ok (.iload_n 1, 1) := by decide +kernel
theorem s125_38 {d : Nat} {st : List Value} {σ : am_I} {ρ : am_R} {g : am_J} {τ : am_T} {Q : am_Q} {x0 : Value} {v : Int32} : AW d 125 38 [x0, .int v] (st) σ ρ g τ Q = AW d 125 39 [x0, .int v] (.int v :: st) σ ρ g τ Q := aw_lc m125 d125_38 rfl rfl rfl
theorem d125_39 : decode cX11_voids 39 = .ok (.aaload, 1) := by decide +kernel
theorem s125_39 {d : Nat} {st : List Value} {σ : am_I} {ρ : am_R} {g : am_J} {τ : am_T} {Q : am_Q} {x0 x1 : Value} {a : Nat} {j : Int32} (ht : 18 ≤ τ.1 a ∧ τ.1 a ≤ 22) (hj : am_inb j (τ.2.1 a) = true) : AW d 125 39 [x0, x1] (.int j :: .ref a :: st) σ ρ g τ Q = AW d 125 40 [x0, x1] (va_rf (ρ a j.toNatClampNeg) :: st) σ ρ g τ Q := aw_aal m125 d125_39 rfl ht hj
theorem d125_40 : decode cX11_voids 40 = .ok (.iconst 1, 1) := by decide +kernel
theorem s125_40 {d : Nat} {st : List Value} {σ : am_I} {ρ : am_R} {g : am_J} {τ : am_T} {Q : am_Q} {x0 x1 : Value} : AW d 125 40 [x0, x1] (st) σ ρ g τ Q = AW d 125 41 [x0, x1] (.int 1 :: st) σ ρ g τ Q := aw_lc m125 d125_40 rfl rfl rfl
theorem d125_41 : decode cX11_voids 41 = .ok (.putfield 253, 3) := by decide +kernel
theorem s125_41 {d : Nat} {st : List Value} {σ : am_I} {ρ : am_R} {g : am_J} {τ : am_T} {Q : am_Q} {x0 x1 : Value} {a : Nat} {v : Int32} (ht : τ.1 a = 1) (hv : am_b01 v = true) : AW d 125 41 [x0, x1] (.int v :: .ref a :: st) σ ρ g τ Q = AW d 125 44 [x0, x1] (st) (am_u σ a 8 v) ρ g τ Q := aw_pz m125 d125_41 rfl rfl (Or.inl rfl) rfl ht hv
theorem d125_44 : decode cX11_voids 44 = .ok (.aload_n 0, 1) := by decide +kernel
theorem s125_44 {d : Nat} {st : List Value} {σ : am_I} {ρ : am_R} {g : am_J} {τ : am_T} {Q : am_Q} {x1 : Value} {v : Nat} : AW d 125 44 [.ref v, x1] (st) σ ρ g τ Q = AW d 125 45 [.ref v, x1] (.ref v :: st) σ ρ g τ Q := aw_lc m125 d125_44 rfl rfl rfl
theorem d125_45 : decode cX11_voids 45 = .ok (.getfield 10, 3) := by decide +kernel
theorem s125_45 {d : Nat} {st : List Value} {σ : am_I} {ρ : am_R} {g : am_J} {τ : am_T} {Q : am_Q} {x0 x1 : Value} {a : Nat} (ht : τ.1 a = 11) : AW d 125 45 [x0, x1] (.ref a :: st) σ ρ g τ Q = AW d 125 48 [x0, x1] (va_rf (ρ a 0) :: st) σ ρ g τ Q := aw_gr m125 d125_45 rfl rfl rfl ht
theorem d125_48 : decode cX11_voids 48 = .ok (.getfield 209, 3) := by decide +kernel
theorem s125_48 {d : Nat} {st : List Value} {σ : am_I} {ρ : am_R} {g : am_J} {τ : am_T} {Q : am_Q} {x0 x1 : Value} {a : Nat} (ht : τ.1 a = 3) : AW d 125 48 [x0, x1] (.ref a :: st) σ ρ g τ Q = AW d 125 51 [x0, x1] (va_rf (ρ a 7) :: st) σ ρ g τ Q := aw_gr m125 d125_48 rfl rfl rfl ht
theorem d125_51 : decode cX11_voids 51 = .ok (.iload_n 1, 1) := by decide +kernel
theorem s125_51 {d : Nat} {st : List Value} {σ : am_I} {ρ : am_R} {g : am_J} {τ : am_T} {Q : am_Q} {x0 : Value} {v : Int32} : AW d 125 51 [x0, .int v] (st) σ ρ g τ Q = AW d 125 52 [x0, .int v] (.int v :: st) σ ρ g τ Q := aw_lc m125 d125_51 rfl rfl rfl
theorem d125_52 : decode cX11_voids 52 = .ok (.aaload, 1) := by decide +kernel
theorem s125_52 {d : Nat} {st : List Value} {σ : am_I} {ρ : am_R} {g : am_J} {τ : am_T} {Q : am_Q} {x0 x1 : Value} {a : Nat} {j : Int32} (ht : 18 ≤ τ.1 a ∧ τ.1 a ≤ 22) (hj : am_inb j (τ.2.1 a) = true) : AW d 125 52 [x0, x1] (.int j :: .ref a :: st) σ ρ g τ Q = AW d 125 53 [x0, x1] (va_rf (ρ a j.toNatClampNeg) :: st) σ ρ g τ Q := aw_aal m125 d125_52 rfl ht hj
theorem d125_53 : decode cX11_voids 53 = .ok (.getfield 234, 3) := by decide +kernel
theorem s125_53 {d : Nat} {st : List Value} {σ : am_I} {ρ : am_R} {g : am_J} {τ : am_T} {Q : am_Q} {x0 x1 : Value} {a : Nat} (ht : τ.1 a = 1) : AW d 125 53 [x0, x1] (.ref a :: st) σ ρ g τ Q = AW d 125 56 [x0, x1] (.int (σ a 6) :: st) σ ρ g τ Q := aw_gi m125 d125_53 rfl rfl rfl ht
theorem d125_56 : decode cX11_voids 56 = .ok (.ireturn, 1) := by decide +kernel
theorem s125_56 {d : Nat} {σ : am_I} {ρ : am_R} {g : am_J} {τ : am_T} {Q : am_Q} {x0 x1 : Value} {v : Int32} : AW d 125 56 [x0, x1] ([.int v]) σ ρ g τ Q = Q (some (.int v)) σ ρ g τ := aw_ri m125 d125_56 rfl
theorem d126_0 : decode cX11_feed 0 = .ok (.iload_n 3, 1) := by decide +kernel
theorem s126_0 {d : Nat} {st : List Value} {σ : am_I} {ρ : am_R} {g : am_J} {τ : am_T} {Q : am_Q} {x0 x1 x2 x4 : Value} {v : Int32} : AW d 126 0 [x0, x1, x2, .int v, x4] (st) σ ρ g τ Q = AW d 126 1 [x0, x1, x2, .int v, x4] (.int v :: st) σ ρ g τ Q := aw_lc m126 d126_0 rfl rfl rfl
theorem d126_1 : decode cX11_feed 1 = .ok (.iconst 1, 1) := by decide +kernel
theorem s126_1 {d : Nat} {st : List Value} {σ : am_I} {ρ : am_R} {g : am_J} {τ : am_T} {Q : am_Q} {x0 x1 x2 x3 x4 : Value} : AW d 126 1 [x0, x1, x2, x3, x4] (st) σ ρ g τ Q = AW d 126 2 [x0, x1, x2, x3, x4] (.int 1 :: st) σ ρ g τ Q := aw_lc m126 d126_1 rfl rfl rfl
theorem d126_2 : decode cX11_feed 2 = .ok (.bipush 8, 2) := by decide +kernel
theorem s126_2 {d : Nat} {st : List Value} {σ : am_I} {ρ : am_R} {g : am_J} {τ : am_T} {Q : am_Q} {x0 x1 x2 x3 x4 : Value} : AW d 126 2 [x0, x1, x2, x3, x4] (st) σ ρ g τ Q = AW d 126 4 [x0, x1, x2, x3, x4] (.int 8 :: st) σ ρ g τ Q := aw_lc m126 d126_2 rfl rfl rfl
theorem d126_4 : decode cX11_feed 4 = .ok (.invokestatic 74, 3) := by decide +kernel
theorem s126_4 {d : Nat} {st : List Value} {σ : am_I} {ρ : am_R} {g : am_J} {τ : am_T} {Q : am_Q} {x0 x1 x2 x3 x4 : Value} {p0 : Int32} {p1 : Int32} {p2 : Int32} (hs : st.length ≤ 4) : AW (d + 1) 126 4 [x0, x1, x2, x3, x4] (.int p2 :: .int p1 :: .int p0 :: st) σ ρ g τ Q = AW d 100 0 [.int p0, .int p1, .int p2] [] σ ρ g τ (fun r9 σ ρ g τ => AW (d + 1) 126 7 [x0, x1, x2, x3, x4] (r9.toList ++ st) σ ρ g τ Q) := aw_cs m126 d126_4 rfl (by simp only [List.length_cons]; omega) rfl rfl en100 ok100 rfl hs
theorem d126_7 : decode cX11_feed 7 = .ok (.ifCond .ne 5, 3) := by decide +kernel
theorem s126_7 {d : Nat} {st : List Value} {σ : am_I} {ρ : am_R} {g : am_J} {τ : am_T} {Q : am_Q} {x0 x1 x2 x3 x4 : Value} {v : Int32} : AW d 126 7 [x0, x1, x2, x3, x4] (.int v :: st) σ ρ g τ Q = if ¬ v = 0 then AW d 126 12 [x0, x1, x2, x3, x4] (st) σ ρ g τ Q else AW d 126 10 [x0, x1, x2, x3, x4] (st) σ ρ g τ Q := aw_br m126 d126_7 rfl rfl rfl
theorem d126_10 : decode cX11_feed 10 = .ok (.iconst (-1), 1) := by decide +kernel
theorem s126_10 {d : Nat} {st : List Value} {σ : am_I} {ρ : am_R} {g : am_J} {τ : am_T} {Q : am_Q} {x0 x1 x2 x3 x4 : Value} : AW d 126 10 [x0, x1, x2, x3, x4] (st) σ ρ g τ Q = AW d 126 11 [x0, x1, x2, x3, x4] (.int (-1) :: st) σ ρ g τ Q := aw_lc m126 d126_10 rfl rfl rfl
theorem d126_11 : decode cX11_feed 11 = .ok (.ireturn, 1) := by decide +kernel
theorem s126_11 {d : Nat} {σ : am_I} {ρ : am_R} {g : am_J} {τ : am_T} {Q : am_Q} {x0 x1 x2 x3 x4 : Value} {v : Int32} : AW d 126 11 [x0, x1, x2, x3, x4] ([.int v]) σ ρ g τ Q = Q (some (.int v)) σ ρ g τ := aw_ri m126 d126_11 rfl
theorem d126_12 : decode cX11_feed 12 = .ok (.aload_n 0, 1) := by decide +kernel
theorem s126_12 {d : Nat} {st : List Value} {σ : am_I} {ρ : am_R} {g : am_J} {τ : am_T} {Q : am_Q} {x1 x2 x3 x4 : Value} {v : Nat} : AW d 126 12 [.ref v, x1, x2, x3, x4] (st) σ ρ g τ Q = AW d 126 13 [.ref v, x1, x2, x3, x4] (.ref v :: st) σ ρ g τ Q := aw_lc m126 d126_12 rfl rfl rfl
theorem d126_13 : decode cX11_feed 13 = .ok (.getfield 26, 3) := by decide +kernel
theorem s126_13 {d : Nat} {st : List Value} {σ : am_I} {ρ : am_R} {g : am_J} {τ : am_T} {Q : am_Q} {x0 x1 x2 x3 x4 : Value} {a : Nat} (ht : τ.1 a = 11) : AW d 126 13 [x0, x1, x2, x3, x4] (.ref a :: st) σ ρ g τ Q = AW d 126 16 [x0, x1, x2, x3, x4] (va_rf (ρ a 3) :: st) σ ρ g τ Q := aw_gr m126 d126_13 rfl rfl rfl ht
theorem d126_16 : decode cX11_feed 16 = .ok (.getfield 262, 3) := by decide +kernel
theorem s126_16 {d : Nat} {st : List Value} {σ : am_I} {ρ : am_R} {g : am_J} {τ : am_T} {Q : am_Q} {x0 x1 x2 x3 x4 : Value} {a : Nat} (ht : τ.1 a = 10) : AW d 126 16 [x0, x1, x2, x3, x4] (.ref a :: st) σ ρ g τ Q = AW d 126 19 [x0, x1, x2, x3, x4] (.int (σ a 1) :: st) σ ρ g τ Q := aw_gi m126 d126_16 rfl rfl rfl ht
theorem d126_19 : decode cX11_feed 19 = .ok (.iload_n 3, 1) := by decide +kernel
theorem s126_19 {d : Nat} {st : List Value} {σ : am_I} {ρ : am_R} {g : am_J} {τ : am_T} {Q : am_Q} {x0 x1 x2 x4 : Value} {v : Int32} : AW d 126 19 [x0, x1, x2, .int v, x4] (st) σ ρ g τ Q = AW d 126 20 [x0, x1, x2, .int v, x4] (.int v :: st) σ ρ g τ Q := aw_lc m126 d126_19 rfl rfl rfl
theorem d126_20 : decode cX11_feed 20 = .ok (.iadd, 1) := by decide +kernel
theorem s126_20 {d : Nat} {st : List Value} {σ : am_I} {ρ : am_R} {g : am_J} {τ : am_T} {Q : am_Q} {x0 x1 x2 x3 x4 : Value} {v w : Int32} : AW d 126 20 [x0, x1, x2, x3, x4] (.int w :: .int v :: st) σ ρ g τ Q = AW d 126 21 [x0, x1, x2, x3, x4] (.int (v + w) :: st) σ ρ g τ Q := aw_lc m126 d126_20 rfl rfl rfl
theorem d126_21 : decode cX11_feed 21 = .ok (.sipush 240, 3) := by decide +kernel
theorem s126_21 {d : Nat} {st : List Value} {σ : am_I} {ρ : am_R} {g : am_J} {τ : am_T} {Q : am_Q} {x0 x1 x2 x3 x4 : Value} : AW d 126 21 [x0, x1, x2, x3, x4] (st) σ ρ g τ Q = AW d 126 24 [x0, x1, x2, x3, x4] (.int 240 :: st) σ ρ g τ Q := aw_lc m126 d126_21 rfl rfl rfl
theorem d126_24 : decode cX11_feed 24 = .ok (.if_icmp .le 6, 3) := by decide +kernel
theorem s126_24 {d : Nat} {st : List Value} {σ : am_I} {ρ : am_R} {g : am_J} {τ : am_T} {Q : am_Q} {x0 x1 x2 x3 x4 : Value} {v w : Int32} : AW d 126 24 [x0, x1, x2, x3, x4] (.int w :: .int v :: st) σ ρ g τ Q = if v ≤ w then AW d 126 30 [x0, x1, x2, x3, x4] (st) σ ρ g τ Q else AW d 126 27 [x0, x1, x2, x3, x4] (st) σ ρ g τ Q := aw_br m126 d126_24 rfl rfl rfl
theorem d126_27 : decode cX11_feed 27 = .ok (.bipush (-2), 2) := by decide +kernel
theorem s126_27 {d : Nat} {st : List Value} {σ : am_I} {ρ : am_R} {g : am_J} {τ : am_T} {Q : am_Q} {x0 x1 x2 x3 x4 : Value} : AW d 126 27 [x0, x1, x2, x3, x4] (st) σ ρ g τ Q = AW d 126 29 [x0, x1, x2, x3, x4] (.int (-2) :: st) σ ρ g τ Q := aw_lc m126 d126_27 rfl rfl rfl
theorem d126_29 : decode cX11_feed 29 = .ok (.ireturn, 1) := by decide +kernel
theorem s126_29 {d : Nat} {σ : am_I} {ρ : am_R} {g : am_J} {τ : am_T} {Q : am_Q} {x0 x1 x2 x3 x4 : Value} {v : Int32} : AW d 126 29 [x0, x1, x2, x3, x4] ([.int v]) σ ρ g τ Q = Q (some (.int v)) σ ρ g τ := aw_ri m126 d126_29 rfl
theorem d126_30 : decode cX11_feed 30 = .ok (.iconst 0, 1) := by decide +kernel
theorem s126_30 {d : Nat} {st : List Value} {σ : am_I} {ρ : am_R} {g : am_J} {τ : am_T} {Q : am_Q} {x0 x1 x2 x3 x4 : Value} : AW d 126 30 [x0, x1, x2, x3, x4] (st) σ ρ g τ Q = AW d 126 31 [x0, x1, x2, x3, x4] (.int 0 :: st) σ ρ g τ Q := aw_lc m126 d126_30 rfl rfl rfl
theorem d126_31 : decode cX11_feed 31 = .ok (.istore 4, 2) := by decide +kernel
theorem s126_31 {d : Nat} {st : List Value} {σ : am_I} {ρ : am_R} {g : am_J} {τ : am_T} {Q : am_Q} {x0 x1 x2 x4 : Value} {v : Int32} {u : Int32} : AW d 126 31 [x0, x1, x2, .int u, x4] (.int v :: st) σ ρ g τ Q = AW d 126 33 [x0, x1, x2, .int u, .int v] (st) σ ρ g τ Q := aw_lc m126 d126_31 rfl rfl rfl
theorem d126_33 : decode cX11_feed 33 = .ok (.iload 4, 2) := by decide +kernel
theorem s126_33 {d : Nat} {st : List Value} {σ : am_I} {ρ : am_R} {g : am_J} {τ : am_T} {Q : am_Q} {x0 x1 x2 x3 : Value} {v : Int32} : AW d 126 33 [x0, x1, x2, x3, .int v] (st) σ ρ g τ Q = AW d 126 35 [x0, x1, x2, x3, .int v] (.int v :: st) σ ρ g τ Q := aw_lc m126 d126_33 rfl rfl rfl
theorem d126_35 : decode cX11_feed 35 = .ok (.iload_n 3, 1) := by decide +kernel
theorem s126_35 {d : Nat} {st : List Value} {σ : am_I} {ρ : am_R} {g : am_J} {τ : am_T} {Q : am_Q} {x0 x1 x2 x4 : Value} {v : Int32} : AW d 126 35 [x0, x1, x2, .int v, x4] (st) σ ρ g τ Q = AW d 126 36 [x0, x1, x2, .int v, x4] (.int v :: st) σ ρ g τ Q := aw_lc m126 d126_35 rfl rfl rfl
theorem d126_36 : decode cX11_feed 36 = .ok (.if_icmp .ge 25, 3) := by decide +kernel
theorem s126_36 {d : Nat} {st : List Value} {σ : am_I} {ρ : am_R} {g : am_J} {τ : am_T} {Q : am_Q} {x0 x1 x2 x3 x4 : Value} {v w : Int32} : AW d 126 36 [x0, x1, x2, x3, x4] (.int w :: .int v :: st) σ ρ g τ Q = if w ≤ v then AW d 126 61 [x0, x1, x2, x3, x4] (st) σ ρ g τ Q else AW d 126 39 [x0, x1, x2, x3, x4] (st) σ ρ g τ Q := aw_br m126 d126_36 rfl rfl rfl
theorem d126_39 : decode cX11_feed 39 = .ok (.aload_n 0, 1) := by decide +kernel
theorem s126_39 {d : Nat} {st : List Value} {σ : am_I} {ρ : am_R} {g : am_J} {τ : am_T} {Q : am_Q} {x1 x2 x3 x4 : Value} {v : Nat} : AW d 126 39 [.ref v, x1, x2, x3, x4] (st) σ ρ g τ Q = AW d 126 40 [.ref v, x1, x2, x3, x4] (.ref v :: st) σ ρ g τ Q := aw_lc m126 d126_39 rfl rfl rfl
theorem d126_40 : decode cX11_feed 40 = .ok (.getfield 26, 3) := by decide +kernel
theorem s126_40 {d : Nat} {st : List Value} {σ : am_I} {ρ : am_R} {g : am_J} {τ : am_T} {Q : am_Q} {x0 x1 x2 x3 x4 : Value} {a : Nat} (ht : τ.1 a = 11) : AW d 126 40 [x0, x1, x2, x3, x4] (.ref a :: st) σ ρ g τ Q = AW d 126 43 [x0, x1, x2, x3, x4] (va_rf (ρ a 3) :: st) σ ρ g τ Q := aw_gr m126 d126_40 rfl rfl rfl ht
theorem d126_43 : decode cX11_feed 43 = .ok (.lload_n 1, 1) := by decide +kernel
theorem s126_43 {d : Nat} {st : List Value} {σ : am_I} {ρ : am_R} {g : am_J} {τ : am_T} {Q : am_Q} {x0 x2 x3 x4 : Value} {v : Int64} : AW d 126 43 [x0, .long v, x2, x3, x4] (st) σ ρ g τ Q = AW d 126 44 [x0, .long v, x2, x3, x4] (.long v :: st) σ ρ g τ Q := aw_lc m126 d126_43 rfl rfl rfl
theorem d126_44 : decode cX11_feed 44 = .ok (.bipush 8, 2) := by decide +kernel
theorem s126_44 {d : Nat} {st : List Value} {σ : am_I} {ρ : am_R} {g : am_J} {τ : am_T} {Q : am_Q} {x0 x1 x2 x3 x4 : Value} : AW d 126 44 [x0, x1, x2, x3, x4] (st) σ ρ g τ Q = AW d 126 46 [x0, x1, x2, x3, x4] (.int 8 :: st) σ ρ g τ Q := aw_lc m126 d126_44 rfl rfl rfl
theorem d126_46 : decode cX11_feed 46 = .ok (.iload 4, 2) := by decide +kernel
theorem s126_46 {d : Nat} {st : List Value} {σ : am_I} {ρ : am_R} {g : am_J} {τ : am_T} {Q : am_Q} {x0 x1 x2 x3 : Value} {v : Int32} : AW d 126 46 [x0, x1, x2, x3, .int v] (st) σ ρ g τ Q = AW d 126 48 [x0, x1, x2, x3, .int v] (.int v :: st) σ ρ g τ Q := aw_lc m126 d126_46 rfl rfl rfl
theorem d126_48 : decode cX11_feed 48 = .ok (.imul, 1) := by decide +kernel
theorem s126_48 {d : Nat} {st : List Value} {σ : am_I} {ρ : am_R} {g : am_J} {τ : am_T} {Q : am_Q} {x0 x1 x2 x3 x4 : Value} {v w : Int32} : AW d 126 48 [x0, x1, x2, x3, x4] (.int w :: .int v :: st) σ ρ g τ Q = AW d 126 49 [x0, x1, x2, x3, x4] (.int (v * w) :: st) σ ρ g τ Q := aw_lc m126 d126_48 rfl rfl rfl
theorem d126_49 : decode cX11_feed 49 = .ok (.lshr, 1) := by decide +kernel
theorem s126_49 {d : Nat} {st : List Value} {σ : am_I} {ρ : am_R} {g : am_J} {τ : am_T} {Q : am_Q} {x0 x1 x2 x3 x4 : Value} {v : Int64} {w : Int32} : AW d 126 49 [x0, x1, x2, x3, x4] (.int w :: .long v :: st) σ ρ g τ Q = AW d 126 50 [x0, x1, x2, x3, x4] (.long (v >>> (w.toInt64 &&& 63)) :: st) σ ρ g τ Q := aw_lc m126 d126_49 rfl rfl rfl
theorem d126_50 : decode cX11_feed 50 = .ok (.l2i, 1) := by decide +kernel
theorem s126_50 {d : Nat} {st : List Value} {σ : am_I} {ρ : am_R} {g : am_J} {τ : am_T} {Q : am_Q} {x0 x1 x2 x3 x4 : Value} {v : Int64} : AW d 126 50 [x0, x1, x2, x3, x4] (.long v :: st) σ ρ g τ Q = AW d 126 51 [x0, x1, x2, x3, x4] (.int v.toInt32 :: st) σ ρ g τ Q := aw_lc m126 d126_50 rfl rfl rfl
theorem d126_51 : decode cX11_feed 51 = .ok (.i2b, 1) := by decide +kernel
theorem s126_51 {d : Nat} {st : List Value} {σ : am_I} {ρ : am_R} {g : am_J} {τ : am_T} {Q : am_Q} {x0 x1 x2 x3 x4 : Value} {v : Int32} : AW d 126 51 [x0, x1, x2, x3, x4] (.int v :: st) σ ρ g τ Q = AW d 126 52 [x0, x1, x2, x3, x4] (.int v.toInt8.toInt32 :: st) σ ρ g τ Q := aw_lc m126 d126_51 rfl rfl rfl
theorem d126_52 : decode cX11_feed 52 = .ok (.invokevirtual 265, 3) := by decide +kernel
theorem s126_52 {d : Nat} {st : List Value} {σ : am_I} {ρ : am_R} {g : am_J} {τ : am_T} {Q : am_Q} {x0 x1 x2 x3 x4 : Value} {p0 : Nat} {p1 : Int32} (ht : τ.1 p0 = 10) (hs : st.length ≤ 4) : AW (d + 1) 126 52 [x0, x1, x2, x3, x4] (.int p1 :: .ref p0 :: st) σ ρ g τ Q = AW d 77 0 [.ref p0, .int p1] [] σ ρ g τ (fun r9 σ ρ g τ => AW (d + 1) 126 55 [x0, x1, x2, x3, x4] (r9.toList ++ st) σ ρ g τ Q) := aw_cv m126 d126_52 rfl m77 rfl rfl (by decide) en77 ok77 rfl ht hs
theorem d126_55 : decode cX11_feed 55 = .ok (.iinc 4 1, 3) := by decide +kernel
theorem s126_55 {d : Nat} {st : List Value} {σ : am_I} {ρ : am_R} {g : am_J} {τ : am_T} {Q : am_Q} {x0 x1 x2 : Value} {v : Int32} {u : Int32} : AW d 126 55 [x0, x1, x2, .int u, .int v] (st) σ ρ g τ Q = AW d 126 58 [x0, x1, x2, .int u, .int (v + 1)] (st) σ ρ g τ Q := aw_lc m126 d126_55 rfl rfl rfl
theorem d126_58 : decode cX11_feed 58 = .ok (.goto (-25), 3) := by decide +kernel
theorem s126_58 {d : Nat} {st : List Value} {σ : am_I} {ρ : am_R} {g : am_J} {τ : am_T} {Q : am_Q} {x0 x1 x2 x3 x4 : Value} : AW d 126 58 [x0, x1, x2, x3, x4] (st) σ ρ g τ Q = AW d 126 33 [x0, x1, x2, x3, x4] (st) σ ρ g τ Q := aw_lc m126 d126_58 rfl rfl rfl
theorem d126_61 : decode cX11_feed 61 = .ok (.aload_n 0, 1) := by decide +kernel
theorem s126_61 {d : Nat} {st : List Value} {σ : am_I} {ρ : am_R} {g : am_J} {τ : am_T} {Q : am_Q} {x1 x2 x3 x4 : Value} {v : Nat} : AW d 126 61 [.ref v, x1, x2, x3, x4] (st) σ ρ g τ Q = AW d 126 62 [.ref v, x1, x2, x3, x4] (.ref v :: st) σ ρ g τ Q := aw_lc m126 d126_61 rfl rfl rfl
theorem d126_62 : decode cX11_feed 62 = .ok (.getfield 26, 3) := by decide +kernel
theorem s126_62 {d : Nat} {st : List Value} {σ : am_I} {ρ : am_R} {g : am_J} {τ : am_T} {Q : am_Q} {x0 x1 x2 x3 x4 : Value} {a : Nat} (ht : τ.1 a = 11) : AW d 126 62 [x0, x1, x2, x3, x4] (.ref a :: st) σ ρ g τ Q = AW d 126 65 [x0, x1, x2, x3, x4] (va_rf (ρ a 3) :: st) σ ρ g τ Q := aw_gr m126 d126_62 rfl rfl rfl ht
theorem d126_65 : decode cX11_feed 65 = .ok (.getfield 262, 3) := by decide +kernel
theorem s126_65 {d : Nat} {st : List Value} {σ : am_I} {ρ : am_R} {g : am_J} {τ : am_T} {Q : am_Q} {x0 x1 x2 x3 x4 : Value} {a : Nat} (ht : τ.1 a = 10) : AW d 126 65 [x0, x1, x2, x3, x4] (.ref a :: st) σ ρ g τ Q = AW d 126 68 [x0, x1, x2, x3, x4] (.int (σ a 1) :: st) σ ρ g τ Q := aw_gi m126 d126_65 rfl rfl rfl ht
theorem d126_68 : decode cX11_feed 68 = .ok (.ireturn, 1) := by decide +kernel
theorem s126_68 {d : Nat} {σ : am_I} {ρ : am_R} {g : am_J} {τ : am_T} {Q : am_Q} {x0 x1 x2 x3 x4 : Value} {v : Int32} : AW d 126 68 [x0, x1, x2, x3, x4] ([.int v]) σ ρ g τ Q = Q (some (.int v)) σ ρ g τ := aw_ri m126 d126_68 rfl
theorem d127_0 : decode cX11_read 0 = .ok (.aload_n 0, 1) := by decide +kernel
theorem s127_0 {d : Nat} {st : List Value} {σ : am_I} {ρ : am_R} {g : am_J} {τ : am_T} {Q : am_Q} {x1 : Value} {v : Nat} : AW d 127 0 [.ref v, x1] (st) σ ρ g τ Q = AW d 127 1 [.ref v, x1] (.ref v :: st) σ ρ g τ Q := aw_lc m127 d127_0 rfl rfl rfl
theorem d127_1 : decode cX11_read 1 = .ok (.getfield 26, 3) := by decide +kernel
theorem s127_1 {d : Nat} {st : List Value} {σ : am_I} {ρ : am_R} {g : am_J} {τ : am_T} {Q : am_Q} {x0 x1 : Value} {a : Nat} (ht : τ.1 a = 11) : AW d 127 1 [x0, x1] (.ref a :: st) σ ρ g τ Q = AW d 127 4 [x0, x1] (va_rf (ρ a 3) :: st) σ ρ g τ Q := aw_gr m127 d127_1 rfl rfl rfl ht
theorem d127_4 : decode cX11_read 4 = .ok (.invokevirtual 269, 3) := by decide +kernel
theorem s127_4 {d : Nat} {st : List Value} {σ : am_I} {ρ : am_R} {g : am_J} {τ : am_T} {Q : am_Q} {x0 x1 : Value} {p0 : Nat} (ht : τ.1 p0 = 10) (hs : st.length ≤ 4) : AW (d + 1) 127 4 [x0, x1] (.ref p0 :: st) σ ρ g τ Q = AW d 78 0 [.ref p0, am_jk] [] σ ρ g τ (fun r9 σ ρ g τ => AW (d + 1) 127 7 [x0, x1] (r9.toList ++ st) σ ρ g τ Q) := aw_cv m127 d127_4 rfl m78 rfl rfl (by decide) en78 ok78 rfl ht hs
theorem d127_7 : decode cX11_read 7 = .ok (.istore_n 1, 1) := by decide +kernel
theorem s127_7r {d : Nat} {st : List Value} {σ : am_I} {ρ : am_R} {g : am_J} {τ : am_T} {Q : am_Q} {x1 : Value} {v : Int32} {u : Nat} : AW d 127 7 [.ref u, x1] (.int v :: st) σ ρ g τ Q = AW d 127 8 [.ref u, .int v] (st) σ ρ g τ Q := aw_lc m127 d127_7 rfl rfl rfl
theorem d127_8 : decode cX11_read 8 = .ok (.aload_n 0, 1) := by decide +kernel
theorem s127_8 {d : Nat} {st : List Value} {σ : am_I} {ρ : am_R} {g : am_J} {τ : am_T} {Q : am_Q} {x1 : Value} {v : Nat} : AW d 127 8 [.ref v, x1] (st) σ ρ g τ Q = AW d 127 9 [.ref v, x1] (.ref v :: st) σ ρ g τ Q := aw_lc m127 d127_8 rfl rfl rfl
theorem d127_9 : decode cX11_read 9 = .ok (.getfield 26, 3) := by decide +kernel
theorem s127_9 {d : Nat} {st : List Value} {σ : am_I} {ρ : am_R} {g : am_J} {τ : am_T} {Q : am_Q} {x0 x1 : Value} {a : Nat} (ht : τ.1 a = 11) : AW d 127 9 [x0, x1] (.ref a :: st) σ ρ g τ Q = AW d 127 12 [x0, x1] (va_rf (ρ a 3) :: st) σ ρ g τ Q := aw_gr m127 d127_9 rfl rfl rfl ht
theorem d127_12 : decode cX11_read 12 = .ok (.iconst 0, 1) := by decide +kernel
theorem s127_12 {d : Nat} {st : List Value} {σ : am_I} {ρ : am_R} {g : am_J} {τ : am_T} {Q : am_Q} {x0 x1 : Value} : AW d 127 12 [x0, x1] (st) σ ρ g τ Q = AW d 127 13 [x0, x1] (.int 0 :: st) σ ρ g τ Q := aw_lc m127 d127_12 rfl rfl rfl
theorem d127_13 : decode cX11_read 13 = .ok (.putfield 262, 3) := by decide +kernel
theorem s127_13 {d : Nat} {st : List Value} {σ : am_I} {ρ : am_R} {g : am_J} {τ : am_T} {Q : am_Q} {x0 x1 : Value} {a : Nat} {v : Int32} (ht : τ.1 a = 10) : AW d 127 13 [x0, x1] (.int v :: .ref a :: st) σ ρ g τ Q = AW d 127 16 [x0, x1] (st) (am_u σ a 1 v) ρ g τ Q := aw_pi m127 d127_13 rfl rfl (Or.inl rfl) rfl ht
theorem d127_16 : decode cX11_read 16 = .ok (.iload_n 1, 1) := by decide +kernel
theorem s127_16 {d : Nat} {st : List Value} {σ : am_I} {ρ : am_R} {g : am_J} {τ : am_T} {Q : am_Q} {x0 : Value} {v : Int32} : AW d 127 16 [x0, .int v] (st) σ ρ g τ Q = AW d 127 17 [x0, .int v] (.int v :: st) σ ρ g τ Q := aw_lc m127 d127_16 rfl rfl rfl
theorem d127_17 : decode cX11_read 17 = .ok (.ifCond .ne 14, 3) := by decide +kernel
theorem s127_17 {d : Nat} {st : List Value} {σ : am_I} {ρ : am_R} {g : am_J} {τ : am_T} {Q : am_Q} {x0 x1 : Value} {v : Int32} : AW d 127 17 [x0, x1] (.int v :: st) σ ρ g τ Q = if ¬ v = 0 then AW d 127 31 [x0, x1] (st) σ ρ g τ Q else AW d 127 20 [x0, x1] (st) σ ρ g τ Q := aw_br m127 d127_17 rfl rfl rfl
theorem d127_20 : decode cX11_read 20 = .ok (.bipush (-100), 2) := by decide +kernel
theorem s127_20 {d : Nat} {st : List Value} {σ : am_I} {ρ : am_R} {g : am_J} {τ : am_T} {Q : am_Q} {x0 x1 : Value} : AW d 127 20 [x0, x1] (st) σ ρ g τ Q = AW d 127 22 [x0, x1] (.int (-100) :: st) σ ρ g τ Q := aw_lc m127 d127_20 rfl rfl rfl
theorem d127_22 : decode cX11_read 22 = .ok (.aload_n 0, 1) := by decide +kernel
theorem s127_22 {d : Nat} {st : List Value} {σ : am_I} {ρ : am_R} {g : am_J} {τ : am_T} {Q : am_Q} {x1 : Value} {v : Nat} : AW d 127 22 [.ref v, x1] (st) σ ρ g τ Q = AW d 127 23 [.ref v, x1] (.ref v :: st) σ ρ g τ Q := aw_lc m127 d127_22 rfl rfl rfl
theorem d127_23 : decode cX11_read 23 = .ok (.getfield 26, 3) := by decide +kernel
theorem s127_23 {d : Nat} {st : List Value} {σ : am_I} {ρ : am_R} {g : am_J} {τ : am_T} {Q : am_Q} {x0 x1 : Value} {a : Nat} (ht : τ.1 a = 11) : AW d 127 23 [x0, x1] (.ref a :: st) σ ρ g τ Q = AW d 127 26 [x0, x1] (va_rf (ρ a 3) :: st) σ ρ g τ Q := aw_gr m127 d127_23 rfl rfl rfl ht
theorem d127_26 : decode cX11_read 26 = .ok (.getfield 272, 3) := by decide +kernel
theorem s127_26 {d : Nat} {st : List Value} {σ : am_I} {ρ : am_R} {g : am_J} {τ : am_T} {Q : am_Q} {x0 x1 : Value} {a : Nat} (ht : τ.1 a = 10) : AW d 127 26 [x0, x1] (.ref a :: st) σ ρ g τ Q = AW d 127 29 [x0, x1] (.int (σ a 2) :: st) σ ρ g τ Q := aw_gi m127 d127_26 rfl rfl rfl ht
theorem d127_29 : decode cX11_read 29 = .ok (.isub, 1) := by decide +kernel
theorem s127_29 {d : Nat} {st : List Value} {σ : am_I} {ρ : am_R} {g : am_J} {τ : am_T} {Q : am_Q} {x0 x1 : Value} {v w : Int32} : AW d 127 29 [x0, x1] (.int w :: .int v :: st) σ ρ g τ Q = AW d 127 30 [x0, x1] (.int (v - w) :: st) σ ρ g τ Q := aw_lc m127 d127_29 rfl rfl rfl
theorem d127_30 : decode cX11_read 30 = .ok (.ireturn, 1) := by decide +kernel
theorem s127_30 {d : Nat} {σ : am_I} {ρ : am_R} {g : am_J} {τ : am_T} {Q : am_Q} {x0 x1 : Value} {v : Int32} : AW d 127 30 [x0, x1] ([.int v]) σ ρ g τ Q = Q (some (.int v)) σ ρ g τ := aw_ri m127 d127_30 rfl
theorem d127_31 : decode cX11_read 31 = .ok (.aload_n 0, 1) := by decide +kernel
theorem s127_31 {d : Nat} {st : List Value} {σ : am_I} {ρ : am_R} {g : am_J} {τ : am_T} {Q : am_Q} {x1 : Value} {v : Nat} : AW d 127 31 [.ref v, x1] (st) σ ρ g τ Q = AW d 127 32 [.ref v, x1] (.ref v :: st) σ ρ g τ Q := aw_lc m127 d127_31 rfl rfl rfl
theorem d127_32 : decode cX11_read 32 = .ok (.getfield 10, 3) := by decide +kernel
theorem s127_32 {d : Nat} {st : List Value} {σ : am_I} {ρ : am_R} {g : am_J} {τ : am_T} {Q : am_Q} {x0 x1 : Value} {a : Nat} (ht : τ.1 a = 11) : AW d 127 32 [x0, x1] (.ref a :: st) σ ρ g τ Q = AW d 127 35 [x0, x1] (va_rf (ρ a 0) :: st) σ ρ g τ Q := aw_gr m127 d127_32 rfl rfl rfl ht
theorem d127_35 : decode cX11_read 35 = .ok (.getfield 275, 3) := by decide +kernel
theorem s127_35 {d : Nat} {st : List Value} {σ : am_I} {ρ : am_R} {g : am_J} {τ : am_T} {Q : am_Q} {x0 x1 : Value} {a : Nat} (ht : τ.1 a = 3) : AW d 127 35 [x0, x1] (.ref a :: st) σ ρ g τ Q = AW d 127 38 [x0, x1] (.int (σ a 11) :: st) σ ρ g τ Q := aw_gi m127 d127_35 rfl rfl rfl ht
theorem d127_38 : decode cX11_read 38 = .ok (.bipush 8, 2) := by decide +kernel
theorem s127_38 {d : Nat} {st : List Value} {σ : am_I} {ρ : am_R} {g : am_J} {τ : am_T} {Q : am_Q} {x0 x1 : Value} : AW d 127 38 [x0, x1] (st) σ ρ g τ Q = AW d 127 40 [x0, x1] (.int 8 :: st) σ ρ g τ Q := aw_lc m127 d127_38 rfl rfl rfl
theorem d127_40 : decode cX11_read 40 = .ok (.if_icmp .lt 6, 3) := by decide +kernel
theorem s127_40 {d : Nat} {st : List Value} {σ : am_I} {ρ : am_R} {g : am_J} {τ : am_T} {Q : am_Q} {x0 x1 : Value} {v w : Int32} : AW d 127 40 [x0, x1] (.int w :: .int v :: st) σ ρ g τ Q = if v < w then AW d 127 46 [x0, x1] (st) σ ρ g τ Q else AW d 127 43 [x0, x1] (st) σ ρ g τ Q := aw_br m127 d127_40 rfl rfl rfl
theorem d127_43 : decode cX11_read 43 = .ok (.bipush (-2), 2) := by decide +kernel
theorem s127_43 {d : Nat} {st : List Value} {σ : am_I} {ρ : am_R} {g : am_J} {τ : am_T} {Q : am_Q} {x0 x1 : Value} : AW d 127 43 [x0, x1] (st) σ ρ g τ Q = AW d 127 45 [x0, x1] (.int (-2) :: st) σ ρ g τ Q := aw_lc m127 d127_43 rfl rfl rfl
theorem d127_45 : decode cX11_read 45 = .ok (.ireturn, 1) := by decide +kernel
theorem s127_45 {d : Nat} {σ : am_I} {ρ : am_R} {g : am_J} {τ : am_T} {Q : am_Q} {x0 x1 : Value} {v : Int32} : AW d 127 45 [x0, x1] ([.int v]) σ ρ g τ Q = Q (some (.int v)) σ ρ g τ := aw_ri m127 d127_45 rfl
theorem d127_46 : decode cX11_read 46 = .ok (.aload_n 0, 1) := by decide +kernel
theorem s127_46 {d : Nat} {st : List Value} {σ : am_I} {ρ : am_R} {g : am_J} {τ : am_T} {Q : am_Q} {x1 : Value} {v : Nat} : AW d 127 46 [.ref v, x1] (st) σ ρ g τ Q = AW d 127 47 [.ref v, x1] (.ref v :: st) σ ρ g τ Q := aw_lc m127 d127_46 rfl rfl rfl
theorem d127_47 : decode cX11_read 47 = .ok (.getfield 10, 3) := by decide +kernel
theorem s127_47 {d : Nat} {st : List Value} {σ : am_I} {ρ : am_R} {g : am_J} {τ : am_T} {Q : am_Q} {x0 x1 : Value} {a : Nat} (ht : τ.1 a = 11) : AW d 127 47 [x0, x1] (.ref a :: st) σ ρ g τ Q = AW d 127 50 [x0, x1] (va_rf (ρ a 0) :: st) σ ρ g τ Q := aw_gr m127 d127_47 rfl rfl rfl ht
theorem d127_50 : decode cX11_read 50 = .ok (.getfield 278, 3) := by decide +kernel
theorem s127_50 {d : Nat} {st : List Value} {σ : am_I} {ρ : am_R} {g : am_J} {τ : am_T} {Q : am_Q} {x0 x1 : Value} {a : Nat} (ht : τ.1 a = 3) : AW d 127 50 [x0, x1] (.ref a :: st) σ ρ g τ Q = AW d 127 53 [x0, x1] (va_rf (ρ a 10) :: st) σ ρ g τ Q := aw_gr m127 d127_50 rfl rfl rfl ht
theorem d127_53 : decode cX11_read 53 = .ok (.aload_n 0, 1) := by decide +kernel
theorem s127_53 {d : Nat} {st : List Value} {σ : am_I} {ρ : am_R} {g : am_J} {τ : am_T} {Q : am_Q} {x1 : Value} {v : Nat} : AW d 127 53 [.ref v, x1] (st) σ ρ g τ Q = AW d 127 54 [.ref v, x1] (.ref v :: st) σ ρ g τ Q := aw_lc m127 d127_53 rfl rfl rfl
theorem d127_54 : decode cX11_read 54 = .ok (.getfield 10, 3) := by decide +kernel
theorem s127_54 {d : Nat} {st : List Value} {σ : am_I} {ρ : am_R} {g : am_J} {τ : am_T} {Q : am_Q} {x0 x1 : Value} {a : Nat} (ht : τ.1 a = 11) : AW d 127 54 [x0, x1] (.ref a :: st) σ ρ g τ Q = AW d 127 57 [x0, x1] (va_rf (ρ a 0) :: st) σ ρ g τ Q := aw_gr m127 d127_54 rfl rfl rfl ht
theorem d127_57 : decode cX11_read 57 = .ok (.getfield 275, 3) := by decide +kernel
theorem s127_57 {d : Nat} {st : List Value} {σ : am_I} {ρ : am_R} {g : am_J} {τ : am_T} {Q : am_Q} {x0 x1 : Value} {a : Nat} (ht : τ.1 a = 3) : AW d 127 57 [x0, x1] (.ref a :: st) σ ρ g τ Q = AW d 127 60 [x0, x1] (.int (σ a 11) :: st) σ ρ g τ Q := aw_gi m127 d127_57 rfl rfl rfl ht
theorem d127_60 : decode cX11_read 60 = .ok (.new 238, 3) := by decide +kernel
theorem s127_60 {d : Nat} {st : List Value} {σ : am_I} {ρ : am_R} {g : am_J} {τ : am_T} {Q : am_Q} {x0 x1 : Value} : AW d 127 60 [x0, x1] (st) σ ρ g τ Q = AW d 127 63 [x0, x1] (.ref τ.2.2.1 :: st) (am_new 9 2 σ ρ g τ).1 (am_new 9 2 σ ρ g τ).2.1 (am_new 9 2 σ ρ g τ).2.2.1 (am_new 9 2 σ ρ g τ).2.2.2 Q := aw_new m127 d127_60 rfl rfl (by decide)
theorem d127_63 : decode cX11_read 63 = .ok (.dup, 1) := by decide +kernel
theorem s127_63 {d : Nat} {st : List Value} {σ : am_I} {ρ : am_R} {g : am_J} {τ : am_T} {Q : am_Q} {x0 x1 : Value} {v : Int32} : AW d 127 63 [x0, x1] (.int v :: st) σ ρ g τ Q = AW d 127 64 [x0, x1] (.int v :: .int v :: st) σ ρ g τ Q := aw_lc m127 d127_63 rfl rfl rfl
theorem s127_63r {d : Nat} {st : List Value} {σ : am_I} {ρ : am_R} {g : am_J} {τ : am_T} {Q : am_Q} {x0 x1 : Value} {v : Nat} : AW d 127 63 [x0, x1] (.ref v :: st) σ ρ g τ Q = AW d 127 64 [x0, x1] (.ref v :: .ref v :: st) σ ρ g τ Q := aw_lc m127 d127_63 rfl rfl rfl
theorem d127_64 : decode cX11_read 64 = .ok (.aload_n 0, 1) := by decide +kernel
theorem s127_64 {d : Nat} {st : List Value} {σ : am_I} {ρ : am_R} {g : am_J} {τ : am_T} {Q : am_Q} {x1 : Value} {v : Nat} : AW d 127 64 [.ref v, x1] (st) σ ρ g τ Q = AW d 127 65 [.ref v, x1] (.ref v :: st) σ ρ g τ Q := aw_lc m127 d127_64 rfl rfl rfl
theorem d127_65 : decode cX11_read 65 = .ok (.getfield 10, 3) := by decide +kernel
theorem s127_65 {d : Nat} {st : List Value} {σ : am_I} {ρ : am_R} {g : am_J} {τ : am_T} {Q : am_Q} {x0 x1 : Value} {a : Nat} (ht : τ.1 a = 11) : AW d 127 65 [x0, x1] (.ref a :: st) σ ρ g τ Q = AW d 127 68 [x0, x1] (va_rf (ρ a 0) :: st) σ ρ g τ Q := aw_gr m127 d127_65 rfl rfl rfl ht
theorem d127_68 : decode cX11_read 68 = .ok (.getfield 78, 3) := by decide +kernel
theorem s127_68 {d : Nat} {st : List Value} {σ : am_I} {ρ : am_R} {g : am_J} {τ : am_T} {Q : am_Q} {x0 x1 : Value} {a : Nat} (ht : τ.1 a = 3) : AW d 127 68 [x0, x1] (.ref a :: st) σ ρ g τ Q = AW d 127 71 [x0, x1] (.int (σ a 0) :: st) σ ρ g τ Q := aw_gi m127 d127_68 rfl rfl rfl ht
theorem d127_71 : decode cX11_read 71 = .ok (.aload_n 0, 1) := by decide +kernel
theorem s127_71 {d : Nat} {st : List Value} {σ : am_I} {ρ : am_R} {g : am_J} {τ : am_T} {Q : am_Q} {x1 : Value} {v : Nat} : AW d 127 71 [.ref v, x1] (st) σ ρ g τ Q = AW d 127 72 [.ref v, x1] (.ref v :: st) σ ρ g τ Q := aw_lc m127 d127_71 rfl rfl rfl
theorem d127_72 : decode cX11_read 72 = .ok (.getfield 26, 3) := by decide +kernel
theorem s127_72 {d : Nat} {st : List Value} {σ : am_I} {ρ : am_R} {g : am_J} {τ : am_T} {Q : am_Q} {x0 x1 : Value} {a : Nat} (ht : τ.1 a = 11) : AW d 127 72 [x0, x1] (.ref a :: st) σ ρ g τ Q = AW d 127 75 [x0, x1] (va_rf (ρ a 3) :: st) σ ρ g τ Q := aw_gr m127 d127_72 rfl rfl rfl ht
theorem d127_75 : decode cX11_read 75 = .ok (.invokevirtual 282, 3) := by decide +kernel
theorem s127_75 {d : Nat} {st : List Value} {σ : am_I} {ρ : am_R} {g : am_J} {τ : am_T} {Q : am_Q} {x0 x1 : Value} {p0 : Nat} (ht : τ.1 p0 = 10) (hs : st.length ≤ 4) : AW (d + 1) 127 75 [x0, x1] (.ref p0 :: st) σ ρ g τ Q = AW d 79 0 [.ref p0, am_jk, am_jk] [] σ ρ g τ (fun r9 σ ρ g τ => AW (d + 1) 127 78 [x0, x1] (r9.toList ++ st) σ ρ g τ Q) := aw_cv m127 d127_75 rfl m79 rfl rfl (by decide) en79 ok79 rfl ht hs
theorem d127_78 : decode cX11_read 78 = .ok (.invokespecial 286, 3) := by decide +kernel
theorem s127_78 {d : Nat} {st : List Value} {σ : am_I} {ρ : am_R} {g : am_J} {τ : am_T} {Q : am_Q} {x0 x1 : Value} {p0 : Nat} {p1 : Int32} {p2 : Nat} (hs : st.length ≤ 4) : AW (d + 1) 127 78 [x0, x1] (.ref p2 :: .int p1 :: .ref p0 :: st) σ ρ g τ Q = AW d 68 0 [.ref p0, .int p1, .ref p2] [] σ ρ g τ (fun r9 σ ρ g τ => AW (d + 1) 127 81 [x0, x1] (r9.toList ++ st) σ ρ g τ Q) := aw_ci m127 d127_78 rfl rfl en68 ok68 rfl hs
theorem d127_81 : decode cX11_read 81 = .ok (.aastore, 1) := by decide +kernel
theorem s127_81 {d : Nat} {st : List Value} {σ : am_I} {ρ : am_R} {g : am_J} {τ : am_T} {Q : am_Q} {x0 x1 : Value} {a b : Nat} {j : Int32} (ht : 18 ≤ τ.1 a ∧ τ.1 a ≤ 22) (hj : am_inb j (τ.2.1 a) = true) (hb : τ.1 b = am_elK (τ.1 a)) (hb2 : b < am_BG) : AW d 127 81 [x0, x1] (.ref b :: .int j :: .ref a :: st) σ ρ g τ Q = AW d 127 82 [x0, x1] (st) σ (am_u ρ a j.toNatClampNeg (some b)) g τ Q := aw_aas m127 d127_81 rfl ht hj hb hb2
theorem d127_82 : decode cX11_read 82 = .ok (.aload_n 0, 1) := by decide +kernel
theorem s127_82 {d : Nat} {st : List Value} {σ : am_I} {ρ : am_R} {g : am_J} {τ : am_T} {Q : am_Q} {x1 : Value} {v : Nat} : AW d 127 82 [.ref v, x1] (st) σ ρ g τ Q = AW d 127 83 [.ref v, x1] (.ref v :: st) σ ρ g τ Q := aw_lc m127 d127_82 rfl rfl rfl
theorem d127_83 : decode cX11_read 83 = .ok (.getfield 10, 3) := by decide +kernel
theorem s127_83 {d : Nat} {st : List Value} {σ : am_I} {ρ : am_R} {g : am_J} {τ : am_T} {Q : am_Q} {x0 x1 : Value} {a : Nat} (ht : τ.1 a = 11) : AW d 127 83 [x0, x1] (.ref a :: st) σ ρ g τ Q = AW d 127 86 [x0, x1] (va_rf (ρ a 0) :: st) σ ρ g τ Q := aw_gr m127 d127_83 rfl rfl rfl ht
theorem d127_86 : decode cX11_read 86 = .ok (.dup, 1) := by decide +kernel
theorem s127_86 {d : Nat} {st : List Value} {σ : am_I} {ρ : am_R} {g : am_J} {τ : am_T} {Q : am_Q} {x0 x1 : Value} {v : Int32} : AW d 127 86 [x0, x1] (.int v :: st) σ ρ g τ Q = AW d 127 87 [x0, x1] (.int v :: .int v :: st) σ ρ g τ Q := aw_lc m127 d127_86 rfl rfl rfl
theorem s127_86r {d : Nat} {st : List Value} {σ : am_I} {ρ : am_R} {g : am_J} {τ : am_T} {Q : am_Q} {x0 x1 : Value} {v : Nat} : AW d 127 86 [x0, x1] (.ref v :: st) σ ρ g τ Q = AW d 127 87 [x0, x1] (.ref v :: .ref v :: st) σ ρ g τ Q := aw_lc m127 d127_86 rfl rfl rfl
theorem d127_87 : decode cX11_read 87 = .ok (.getfield 275, 3) := by decide +kernel
theorem s127_87 {d : Nat} {st : List Value} {σ : am_I} {ρ : am_R} {g : am_J} {τ : am_T} {Q : am_Q} {x0 x1 : Value} {a : Nat} (ht : τ.1 a = 3) : AW d 127 87 [x0, x1] (.ref a :: st) σ ρ g τ Q = AW d 127 90 [x0, x1] (.int (σ a 11) :: st) σ ρ g τ Q := aw_gi m127 d127_87 rfl rfl rfl ht
theorem d127_90 : decode cX11_read 90 = .ok (.iconst 1, 1) := by decide +kernel
theorem s127_90 {d : Nat} {st : List Value} {σ : am_I} {ρ : am_R} {g : am_J} {τ : am_T} {Q : am_Q} {x0 x1 : Value} : AW d 127 90 [x0, x1] (st) σ ρ g τ Q = AW d 127 91 [x0, x1] (.int 1 :: st) σ ρ g τ Q := aw_lc m127 d127_90 rfl rfl rfl
theorem d127_91 : decode cX11_read 91 = .ok (.iadd, 1) := by decide +kernel
theorem s127_91 {d : Nat} {st : List Value} {σ : am_I} {ρ : am_R} {g : am_J} {τ : am_T} {Q : am_Q} {x0 x1 : Value} {v w : Int32} : AW d 127 91 [x0, x1] (.int w :: .int v :: st) σ ρ g τ Q = AW d 127 92 [x0, x1] (.int (v + w) :: st) σ ρ g τ Q := aw_lc m127 d127_91 rfl rfl rfl
theorem d127_92 : decode cX11_read 92 = .ok (.putfield 275, 3) := by decide +kernel
theorem s127_92 {d : Nat} {st : List Value} {σ : am_I} {ρ : am_R} {g : am_J} {τ : am_T} {Q : am_Q} {x0 x1 : Value} {a : Nat} {v : Int32} (ht : τ.1 a = 3) : AW d 127 92 [x0, x1] (.int v :: .ref a :: st) σ ρ g τ Q = AW d 127 95 [x0, x1] (st) (am_u σ a 11 v) ρ g τ Q := aw_pi m127 d127_92 rfl rfl (Or.inl rfl) rfl ht
theorem d127_95 : decode cX11_read 95 = .ok (.aload_n 0, 1) := by decide +kernel
theorem s127_95 {d : Nat} {st : List Value} {σ : am_I} {ρ : am_R} {g : am_J} {τ : am_T} {Q : am_Q} {x1 : Value} {v : Nat} : AW d 127 95 [.ref v, x1] (st) σ ρ g τ Q = AW d 127 96 [.ref v, x1] (.ref v :: st) σ ρ g τ Q := aw_lc m127 d127_95 rfl rfl rfl
theorem d127_96 : decode cX11_read 96 = .ok (.getfield 10, 3) := by decide +kernel
theorem s127_96 {d : Nat} {st : List Value} {σ : am_I} {ρ : am_R} {g : am_J} {τ : am_T} {Q : am_Q} {x0 x1 : Value} {a : Nat} (ht : τ.1 a = 11) : AW d 127 96 [x0, x1] (.ref a :: st) σ ρ g τ Q = AW d 127 99 [x0, x1] (va_rf (ρ a 0) :: st) σ ρ g τ Q := aw_gr m127 d127_96 rfl rfl rfl ht
theorem d127_99 : decode cX11_read 99 = .ok (.getfield 275, 3) := by decide +kernel
theorem s127_99 {d : Nat} {st : List Value} {σ : am_I} {ρ : am_R} {g : am_J} {τ : am_T} {Q : am_Q} {x0 x1 : Value} {a : Nat} (ht : τ.1 a = 3) : AW d 127 99 [x0, x1] (.ref a :: st) σ ρ g τ Q = AW d 127 102 [x0, x1] (.int (σ a 11) :: st) σ ρ g τ Q := aw_gi m127 d127_99 rfl rfl rfl ht
theorem d127_102 : decode cX11_read 102 = .ok (.iconst 1, 1) := by decide +kernel
theorem s127_102 {d : Nat} {st : List Value} {σ : am_I} {ρ : am_R} {g : am_J} {τ : am_T} {Q : am_Q} {x0 x1 : Value} : AW d 127 102 [x0, x1] (st) σ ρ g τ Q = AW d 127 103 [x0, x1] (.int 1 :: st) σ ρ g τ Q := aw_lc m127 d127_102 rfl rfl rfl
theorem d127_103 : decode cX11_read 103 = .ok (.isub, 1) := by decide +kernel
theorem s127_103 {d : Nat} {st : List Value} {σ : am_I} {ρ : am_R} {g : am_J} {τ : am_T} {Q : am_Q} {x0 x1 : Value} {v w : Int32} : AW d 127 103 [x0, x1] (.int w :: .int v :: st) σ ρ g τ Q = AW d 127 104 [x0, x1] (.int (v - w) :: st) σ ρ g τ Q := aw_lc m127 d127_103 rfl rfl rfl
theorem d127_104 : decode cX11_read 104 = .ok (.ireturn, 1) := by decide +kernel
theorem s127_104 {d : Nat} {σ : am_I} {ρ : am_R} {g : am_J} {τ : am_T} {Q : am_Q} {x0 x1 : Value} {v : Int32} : AW d 127 104 [x0, x1] ([.int v]) σ ρ g τ Q = Q (some (.int v)) σ ρ g τ := aw_ri m127 d127_104 rfl
theorem d128_0 : decode cX11_line 0 = .ok (.iload_n 1, 1) := by decide +kernel
theorem s128_0 {d : Nat} {st : List Value} {σ : am_I} {ρ : am_R} {g : am_J} {τ : am_T} {Q : am_Q} {x0 x2 x3 x4 : Value} {v : Int32} : AW d 128 0 [x0, .int v, x2, x3, x4] (st) σ ρ g τ Q = AW d 128 1 [x0, .int v, x2, x3, x4] (.int v :: st) σ ρ g τ Q := aw_lc m128 d128_0 rfl rfl rfl
theorem d128_1 : decode cX11_line 1 = .ok (.iconst 0, 1) := by decide +kernel
theorem s128_1 {d : Nat} {st : List Value} {σ : am_I} {ρ : am_R} {g : am_J} {τ : am_T} {Q : am_Q} {x0 x1 x2 x3 x4 : Value} : AW d 128 1 [x0, x1, x2, x3, x4] (st) σ ρ g τ Q = AW d 128 2 [x0, x1, x2, x3, x4] (.int 0 :: st) σ ρ g τ Q := aw_lc m128 d128_1 rfl rfl rfl
theorem d128_2 : decode cX11_line 2 = .ok (.aload_n 0, 1) := by decide +kernel
theorem s128_2 {d : Nat} {st : List Value} {σ : am_I} {ρ : am_R} {g : am_J} {τ : am_T} {Q : am_Q} {x1 x2 x3 x4 : Value} {v : Nat} : AW d 128 2 [.ref v, x1, x2, x3, x4] (st) σ ρ g τ Q = AW d 128 3 [.ref v, x1, x2, x3, x4] (.ref v :: st) σ ρ g τ Q := aw_lc m128 d128_2 rfl rfl rfl
theorem d128_3 : decode cX11_line 3 = .ok (.getfield 10, 3) := by decide +kernel
theorem s128_3 {d : Nat} {st : List Value} {σ : am_I} {ρ : am_R} {g : am_J} {τ : am_T} {Q : am_Q} {x0 x1 x2 x3 x4 : Value} {a : Nat} (ht : τ.1 a = 11) : AW d 128 3 [x0, x1, x2, x3, x4] (.ref a :: st) σ ρ g τ Q = AW d 128 6 [x0, x1, x2, x3, x4] (va_rf (ρ a 0) :: st) σ ρ g τ Q := aw_gr m128 d128_3 rfl rfl rfl ht
theorem d128_6 : decode cX11_line 6 = .ok (.getfield 275, 3) := by decide +kernel
theorem s128_6 {d : Nat} {st : List Value} {σ : am_I} {ρ : am_R} {g : am_J} {τ : am_T} {Q : am_Q} {x0 x1 x2 x3 x4 : Value} {a : Nat} (ht : τ.1 a = 3) : AW d 128 6 [x0, x1, x2, x3, x4] (.ref a :: st) σ ρ g τ Q = AW d 128 9 [x0, x1, x2, x3, x4] (.int (σ a 11) :: st) σ ρ g τ Q := aw_gi m128 d128_6 rfl rfl rfl ht
theorem d128_9 : decode cX11_line 9 = .ok (.iconst 1, 1) := by decide +kernel
theorem s128_9 {d : Nat} {st : List Value} {σ : am_I} {ρ : am_R} {g : am_J} {τ : am_T} {Q : am_Q} {x0 x1 x2 x3 x4 : Value} : AW d 128 9 [x0, x1, x2, x3, x4] (st) σ ρ g τ Q = AW d 128 10 [x0, x1, x2, x3, x4] (.int 1 :: st) σ ρ g τ Q := aw_lc m128 d128_9 rfl rfl rfl
theorem d128_10 : decode cX11_line 10 = .ok (.isub, 1) := by decide +kernel
theorem s128_10 {d : Nat} {st : List Value} {σ : am_I} {ρ : am_R} {g : am_J} {τ : am_T} {Q : am_Q} {x0 x1 x2 x3 x4 : Value} {v w : Int32} : AW d 128 10 [x0, x1, x2, x3, x4] (.int w :: .int v :: st) σ ρ g τ Q = AW d 128 11 [x0, x1, x2, x3, x4] (.int (v - w) :: st) σ ρ g τ Q := aw_lc m128 d128_10 rfl rfl rfl
theorem d128_11 : decode cX11_line 11 = .ok (.invokestatic 74, 3) := by decide +kernel
theorem s128_11 {d : Nat} {st : List Value} {σ : am_I} {ρ : am_R} {g : am_J} {τ : am_T} {Q : am_Q} {x0 x1 x2 x3 x4 : Value} {p0 : Int32} {p1 : Int32} {p2 : Int32} (hs : st.length ≤ 4) : AW (d + 1) 128 11 [x0, x1, x2, x3, x4] (.int p2 :: .int p1 :: .int p0 :: st) σ ρ g τ Q = AW d 100 0 [.int p0, .int p1, .int p2] [] σ ρ g τ (fun r9 σ ρ g τ => AW (d + 1) 128 14 [x0, x1, x2, x3, x4] (r9.toList ++ st) σ ρ g τ Q) := aw_cs m128 d128_11 rfl (by simp only [List.length_cons]; omega) rfl rfl en100 ok100 rfl hs
theorem d128_14 : decode cX11_line 14 = .ok (.ifCond .ne 6, 3) := by decide +kernel
theorem s128_14 {d : Nat} {st : List Value} {σ : am_I} {ρ : am_R} {g : am_J} {τ : am_T} {Q : am_Q} {x0 x1 x2 x3 x4 : Value} {v : Int32} : AW d 128 14 [x0, x1, x2, x3, x4] (.int v :: st) σ ρ g τ Q = if ¬ v = 0 then AW d 128 20 [x0, x1, x2, x3, x4] (st) σ ρ g τ Q else AW d 128 17 [x0, x1, x2, x3, x4] (st) σ ρ g τ Q := aw_br m128 d128_14 rfl rfl rfl
theorem d128_17 : decode cX11_line 17 = .ok (.bipush (-9), 2) := by decide +kernel
theorem s128_17 {d : Nat} {st : List Value} {σ : am_I} {ρ : am_R} {g : am_J} {τ : am_T} {Q : am_Q} {x0 x1 x2 x3 x4 : Value} : AW d 128 17 [x0, x1, x2, x3, x4] (st) σ ρ g τ Q = AW d 128 19 [x0, x1, x2, x3, x4] (.int (-9) :: st) σ ρ g τ Q := aw_lc m128 d128_17 rfl rfl rfl
theorem d128_19 : decode cX11_line 19 = .ok (.ireturn, 1) := by decide +kernel
theorem s128_19 {d : Nat} {σ : am_I} {ρ : am_R} {g : am_J} {τ : am_T} {Q : am_Q} {x0 x1 x2 x3 x4 : Value} {v : Int32} : AW d 128 19 [x0, x1, x2, x3, x4] ([.int v]) σ ρ g τ Q = Q (some (.int v)) σ ρ g τ := aw_ri m128 d128_19 rfl
theorem d128_20 : decode cX11_line 20 = .ok (.aload_n 0, 1) := by decide +kernel
theorem s128_20 {d : Nat} {st : List Value} {σ : am_I} {ρ : am_R} {g : am_J} {τ : am_T} {Q : am_Q} {x1 x2 x3 x4 : Value} {v : Nat} : AW d 128 20 [.ref v, x1, x2, x3, x4] (st) σ ρ g τ Q = AW d 128 21 [.ref v, x1, x2, x3, x4] (.ref v :: st) σ ρ g τ Q := aw_lc m128 d128_20 rfl rfl rfl
theorem d128_21 : decode cX11_line 21 = .ok (.getfield 10, 3) := by decide +kernel
theorem s128_21 {d : Nat} {st : List Value} {σ : am_I} {ρ : am_R} {g : am_J} {τ : am_T} {Q : am_Q} {x0 x1 x2 x3 x4 : Value} {a : Nat} (ht : τ.1 a = 11) : AW d 128 21 [x0, x1, x2, x3, x4] (.ref a :: st) σ ρ g τ Q = AW d 128 24 [x0, x1, x2, x3, x4] (va_rf (ρ a 0) :: st) σ ρ g τ Q := aw_gr m128 d128_21 rfl rfl rfl ht
theorem d128_24 : decode cX11_line 24 = .ok (.getfield 278, 3) := by decide +kernel
theorem s128_24 {d : Nat} {st : List Value} {σ : am_I} {ρ : am_R} {g : am_J} {τ : am_T} {Q : am_Q} {x0 x1 x2 x3 x4 : Value} {a : Nat} (ht : τ.1 a = 3) : AW d 128 24 [x0, x1, x2, x3, x4] (.ref a :: st) σ ρ g τ Q = AW d 128 27 [x0, x1, x2, x3, x4] (va_rf (ρ a 10) :: st) σ ρ g τ Q := aw_gr m128 d128_24 rfl rfl rfl ht
theorem d128_27 : decode cX11_line 27 = .ok (.iload_n 1, 1) := by decide +kernel
theorem s128_27 {d : Nat} {st : List Value} {σ : am_I} {ρ : am_R} {g : am_J} {τ : am_T} {Q : am_Q} {x0 x2 x3 x4 : Value} {v : Int32} : AW d 128 27 [x0, .int v, x2, x3, x4] (st) σ ρ g τ Q = AW d 128 28 [x0, .int v, x2, x3, x4] (.int v :: st) σ ρ g τ Q := aw_lc m128 d128_27 rfl rfl rfl
theorem d128_28 : decode cX11_line 28 = .ok (.aaload, 1) := by decide +kernel
theorem s128_28 {d : Nat} {st : List Value} {σ : am_I} {ρ : am_R} {g : am_J} {τ : am_T} {Q : am_Q} {x0 x1 x2 x3 x4 : Value} {a : Nat} {j : Int32} (ht : 18 ≤ τ.1 a ∧ τ.1 a ≤ 22) (hj : am_inb j (τ.2.1 a) = true) : AW d 128 28 [x0, x1, x2, x3, x4] (.int j :: .ref a :: st) σ ρ g τ Q = AW d 128 29 [x0, x1, x2, x3, x4] (va_rf (ρ a j.toNatClampNeg) :: st) σ ρ g τ Q := aw_aal m128 d128_28 rfl ht hj
theorem d128_29 : decode cX11_line 29 = .ok (.getfield 289, 3) := by decide +kernel
theorem s128_29 {d : Nat} {st : List Value} {σ : am_I} {ρ : am_R} {g : am_J} {τ : am_T} {Q : am_Q} {x0 x1 x2 x3 x4 : Value} {a : Nat} (ht : τ.1 a = 9) : AW d 128 29 [x0, x1, x2, x3, x4] (.ref a :: st) σ ρ g τ Q = AW d 128 32 [x0, x1, x2, x3, x4] (va_rf (ρ a 1) :: st) σ ρ g τ Q := aw_gr m128 d128_29 rfl rfl rfl ht
theorem d128_32 : decode cX11_line 32 = .ok (.astore 4, 2) := by decide +kernel
theorem s128_32 {d : Nat} {st : List Value} {σ : am_I} {ρ : am_R} {g : am_J} {τ : am_T} {Q : am_Q} {x0 x1 x2 x4 : Value} {v : Nat} {u : Int32} : AW d 128 32 [x0, x1, x2, .int u, x4] (.ref v :: st) σ ρ g τ Q = AW d 128 34 [x0, x1, x2, .int u, .ref v] (st) σ ρ g τ Q := aw_lc m128 d128_32 rfl rfl rfl
theorem d128_34 : decode cX11_line 34 = .ok (.iload_n 2, 1) := by decide +kernel
theorem s128_34 {d : Nat} {st : List Value} {σ : am_I} {ρ : am_R} {g : am_J} {τ : am_T} {Q : am_Q} {x0 x1 x3 x4 : Value} {v : Int32} : AW d 128 34 [x0, x1, .int v, x3, x4] (st) σ ρ g τ Q = AW d 128 35 [x0, x1, .int v, x3, x4] (.int v :: st) σ ρ g τ Q := aw_lc m128 d128_34 rfl rfl rfl
theorem d128_35 : decode cX11_line 35 = .ok (.iconst 0, 1) := by decide +kernel
theorem s128_35 {d : Nat} {st : List Value} {σ : am_I} {ρ : am_R} {g : am_J} {τ : am_T} {Q : am_Q} {x0 x1 x2 x3 x4 : Value} : AW d 128 35 [x0, x1, x2, x3, x4] (st) σ ρ g τ Q = AW d 128 36 [x0, x1, x2, x3, x4] (.int 0 :: st) σ ρ g τ Q := aw_lc m128 d128_35 rfl rfl rfl
theorem d128_36 : decode cX11_line 36 = .ok (.aload 4, 2) := by decide +kernel
theorem s128_36 {d : Nat} {st : List Value} {σ : am_I} {ρ : am_R} {g : am_J} {τ : am_T} {Q : am_Q} {x0 x1 x2 x3 : Value} {v : Nat} : AW d 128 36 [x0, x1, x2, x3, .ref v] (st) σ ρ g τ Q = AW d 128 38 [x0, x1, x2, x3, .ref v] (.ref v :: st) σ ρ g τ Q := aw_lc m128 d128_36 rfl rfl rfl
theorem d128_38 : decode cX11_line 38 = .ok (.arraylength, 1) := by decide +kernel
theorem s128_38 {d : Nat} {st : List Value} {σ : am_I} {ρ : am_R} {g : am_J} {τ : am_T} {Q : am_Q} {x0 x1 x2 x3 x4 : Value} {a : Nat} (ht : 14 ≤ τ.1 a ∧ τ.1 a ≤ 22) : AW d 128 38 [x0, x1, x2, x3, x4] (.ref a :: st) σ ρ g τ Q = AW d 128 39 [x0, x1, x2, x3, x4] (.int (nI (τ.2.1 a)) :: st) σ ρ g τ Q := aw_len m128 d128_38 rfl ht
theorem d128_39 : decode cX11_line 39 = .ok (.iconst 1, 1) := by decide +kernel
theorem s128_39 {d : Nat} {st : List Value} {σ : am_I} {ρ : am_R} {g : am_J} {τ : am_T} {Q : am_Q} {x0 x1 x2 x3 x4 : Value} : AW d 128 39 [x0, x1, x2, x3, x4] (st) σ ρ g τ Q = AW d 128 40 [x0, x1, x2, x3, x4] (.int 1 :: st) σ ρ g τ Q := aw_lc m128 d128_39 rfl rfl rfl
theorem d128_40 : decode cX11_line 40 = .ok (.isub, 1) := by decide +kernel
theorem s128_40 {d : Nat} {st : List Value} {σ : am_I} {ρ : am_R} {g : am_J} {τ : am_T} {Q : am_Q} {x0 x1 x2 x3 x4 : Value} {v w : Int32} : AW d 128 40 [x0, x1, x2, x3, x4] (.int w :: .int v :: st) σ ρ g τ Q = AW d 128 41 [x0, x1, x2, x3, x4] (.int (v - w) :: st) σ ρ g τ Q := aw_lc m128 d128_40 rfl rfl rfl
theorem d128_41 : decode cX11_line 41 = .ok (.invokestatic 74, 3) := by decide +kernel
theorem s128_41 {d : Nat} {st : List Value} {σ : am_I} {ρ : am_R} {g : am_J} {τ : am_T} {Q : am_Q} {x0 x1 x2 x3 x4 : Value} {p0 : Int32} {p1 : Int32} {p2 : Int32} (hs : st.length ≤ 4) : AW (d + 1) 128 41 [x0, x1, x2, x3, x4] (.int p2 :: .int p1 :: .int p0 :: st) σ ρ g τ Q = AW d 100 0 [.int p0, .int p1, .int p2] [] σ ρ g τ (fun r9 σ ρ g τ => AW (d + 1) 128 44 [x0, x1, x2, x3, x4] (r9.toList ++ st) σ ρ g τ Q) := aw_cs m128 d128_41 rfl (by simp only [List.length_cons]; omega) rfl rfl en100 ok100 rfl hs
theorem d128_44 : decode cX11_line 44 = .ok (.ifCond .ne 6, 3) := by decide +kernel
theorem s128_44 {d : Nat} {st : List Value} {σ : am_I} {ρ : am_R} {g : am_J} {τ : am_T} {Q : am_Q} {x0 x1 x2 x3 x4 : Value} {v : Int32} : AW d 128 44 [x0, x1, x2, x3, x4] (.int v :: st) σ ρ g τ Q = if ¬ v = 0 then AW d 128 50 [x0, x1, x2, x3, x4] (st) σ ρ g τ Q else AW d 128 47 [x0, x1, x2, x3, x4] (st) σ ρ g τ Q := aw_br m128 d128_44 rfl rfl rfl
theorem d128_47 : decode cX11_line 47 = .ok (.bipush (-9), 2) := by decide +kernel
theorem s128_47 {d : Nat} {st : List Value} {σ : am_I} {ρ : am_R} {g : am_J} {τ : am_T} {Q : am_Q} {x0 x1 x2 x3 x4 : Value} : AW d 128 47 [x0, x1, x2, x3, x4] (st) σ ρ g τ Q = AW d 128 49 [x0, x1, x2, x3, x4] (.int (-9) :: st) σ ρ g τ Q := aw_lc m128 d128_47 rfl rfl rfl
theorem d128_49 : decode cX11_line 49 = .ok (.ireturn, 1) := by decide +kernel
theorem s128_49 {d : Nat} {σ : am_I} {ρ : am_R} {g : am_J} {τ : am_T} {Q : am_Q} {x0 x1 x2 x3 x4 : Value} {v : Int32} : AW d 128 49 [x0, x1, x2, x3, x4] ([.int v]) σ ρ g τ Q = Q (some (.int v)) σ ρ g τ := aw_ri m128 d128_49 rfl
theorem d128_50 : decode cX11_line 50 = .ok (.iload_n 3, 1) := by decide +kernel
theorem s128_50 {d : Nat} {st : List Value} {σ : am_I} {ρ : am_R} {g : am_J} {τ : am_T} {Q : am_Q} {x0 x1 x2 x4 : Value} {v : Int32} : AW d 128 50 [x0, x1, x2, .int v, x4] (st) σ ρ g τ Q = AW d 128 51 [x0, x1, x2, .int v, x4] (.int v :: st) σ ρ g τ Q := aw_lc m128 d128_50 rfl rfl rfl
theorem d128_51 : decode cX11_line 51 = .ok (.tableswitch 69 0 3 #[29, 37, 45, 61], 29) := by decide +kernel
theorem s128_51_0 {d : Nat} {st : List Value} {σ : am_I} {ρ : am_R} {g : am_J} {τ : am_T} {Q : am_Q} {x0 x1 x2 x3 x4 : Value} : AW d 128 51 [x0, x1, x2, x3, x4] (.int 0 :: st) σ ρ g τ Q = AW d 128 80 [x0, x1, x2, x3, x4] (st) σ ρ g τ Q := aw_lc m128 d128_51 rfl rfl rfl
theorem s128_51_1 {d : Nat} {st : List Value} {σ : am_I} {ρ : am_R} {g : am_J} {τ : am_T} {Q : am_Q} {x0 x1 x2 x3 x4 : Value} : AW d 128 51 [x0, x1, x2, x3, x4] (.int 1 :: st) σ ρ g τ Q = AW d 128 88 [x0, x1, x2, x3, x4] (st) σ ρ g τ Q := aw_lc m128 d128_51 rfl rfl rfl
theorem s128_51_2 {d : Nat} {st : List Value} {σ : am_I} {ρ : am_R} {g : am_J} {τ : am_T} {Q : am_Q} {x0 x1 x2 x3 x4 : Value} : AW d 128 51 [x0, x1, x2, x3, x4] (.int 2 :: st) σ ρ g τ Q = AW d 128 96 [x0, x1, x2, x3, x4] (st) σ ρ g τ Q := aw_lc m128 d128_51 rfl rfl rfl
theorem s128_51_3 {d : Nat} {st : List Value} {σ : am_I} {ρ : am_R} {g : am_J} {τ : am_T} {Q : am_Q} {x0 x1 x2 x3 x4 : Value} : AW d 128 51 [x0, x1, x2, x3, x4] (.int 3 :: st) σ ρ g τ Q = AW d 128 112 [x0, x1, x2, x3, x4] (st) σ ρ g τ Q := aw_lc m128 d128_51 rfl rfl rfl
theorem s128_51_d {d : Nat} {st : List Value} {σ : am_I} {ρ : am_R} {g : am_J} {τ : am_T} {Q : am_Q} {x0 x1 x2 x3 x4 : Value} {v : Int32} (h : v.toInt < 0 ∨ 3 < v.toInt) : AW d 128 51 [x0, x1, x2, x3, x4] (.int v :: st) σ ρ g τ Q = AW d 128 120 [x0, x1, x2, x3, x4] (st) σ ρ g τ Q := aw_lc m128 d128_51 rfl rfl (by simp only [am_lc]; rw [if_pos h]; rfl)
theorem d128_80 : decode cX11_line 80 = .ok (.aload 4, 2) := by decide +kernel
theorem s128_80 {d : Nat} {st : List Value} {σ : am_I} {ρ : am_R} {g : am_J} {τ : am_T} {Q : am_Q} {x0 x1 x2 x3 : Value} {v : Nat} : AW d 128 80 [x0, x1, x2, x3, .ref v] (st) σ ρ g τ Q = AW d 128 82 [x0, x1, x2, x3, .ref v] (.ref v :: st) σ ρ g τ Q := aw_lc m128 d128_80 rfl rfl rfl
theorem d128_82 : decode cX11_line 82 = .ok (.iload_n 2, 1) := by decide +kernel
theorem s128_82 {d : Nat} {st : List Value} {σ : am_I} {ρ : am_R} {g : am_J} {τ : am_T} {Q : am_Q} {x0 x1 x3 x4 : Value} {v : Int32} : AW d 128 82 [x0, x1, .int v, x3, x4] (st) σ ρ g τ Q = AW d 128 83 [x0, x1, .int v, x3, x4] (.int v :: st) σ ρ g τ Q := aw_lc m128 d128_82 rfl rfl rfl
theorem d128_83 : decode cX11_line 83 = .ok (.aaload, 1) := by decide +kernel
theorem s128_83 {d : Nat} {st : List Value} {σ : am_I} {ρ : am_R} {g : am_J} {τ : am_T} {Q : am_Q} {x0 x1 x2 x3 x4 : Value} {a : Nat} {j : Int32} (ht : 18 ≤ τ.1 a ∧ τ.1 a ≤ 22) (hj : am_inb j (τ.2.1 a) = true) : AW d 128 83 [x0, x1, x2, x3, x4] (.int j :: .ref a :: st) σ ρ g τ Q = AW d 128 84 [x0, x1, x2, x3, x4] (va_rf (ρ a j.toNatClampNeg) :: st) σ ρ g τ Q := aw_aal m128 d128_83 rfl ht hj
theorem d128_84 : decode cX11_line 84 = .ok (.getfield 293, 3) := by decide +kernel
theorem s128_84 {d : Nat} {st : List Value} {σ : am_I} {ρ : am_R} {g : am_J} {τ : am_T} {Q : am_Q} {x0 x1 x2 x3 x4 : Value} {a : Nat} (ht : τ.1 a = 5) : AW d 128 84 [x0, x1, x2, x3, x4] (.ref a :: st) σ ρ g τ Q = AW d 128 87 [x0, x1, x2, x3, x4] (.int (σ a 0) :: st) σ ρ g τ Q := aw_gi m128 d128_84 rfl rfl rfl ht
theorem d128_87 : decode cX11_line 87 = .ok (.ireturn, 1) := by decide +kernel
theorem s128_87 {d : Nat} {σ : am_I} {ρ : am_R} {g : am_J} {τ : am_T} {Q : am_Q} {x0 x1 x2 x3 x4 : Value} {v : Int32} : AW d 128 87 [x0, x1, x2, x3, x4] ([.int v]) σ ρ g τ Q = Q (some (.int v)) σ ρ g τ := aw_ri m128 d128_87 rfl
theorem d128_88 : decode cX11_line 88 = .ok (.aload 4, 2) := by decide +kernel
theorem s128_88 {d : Nat} {st : List Value} {σ : am_I} {ρ : am_R} {g : am_J} {τ : am_T} {Q : am_Q} {x0 x1 x2 x3 : Value} {v : Nat} : AW d 128 88 [x0, x1, x2, x3, .ref v] (st) σ ρ g τ Q = AW d 128 90 [x0, x1, x2, x3, .ref v] (.ref v :: st) σ ρ g τ Q := aw_lc m128 d128_88 rfl rfl rfl
theorem d128_90 : decode cX11_line 90 = .ok (.iload_n 2, 1) := by decide +kernel
theorem s128_90 {d : Nat} {st : List Value} {σ : am_I} {ρ : am_R} {g : am_J} {τ : am_T} {Q : am_Q} {x0 x1 x3 x4 : Value} {v : Int32} : AW d 128 90 [x0, x1, .int v, x3, x4] (st) σ ρ g τ Q = AW d 128 91 [x0, x1, .int v, x3, x4] (.int v :: st) σ ρ g τ Q := aw_lc m128 d128_90 rfl rfl rfl
theorem d128_91 : decode cX11_line 91 = .ok (.aaload, 1) := by decide +kernel
theorem s128_91 {d : Nat} {st : List Value} {σ : am_I} {ρ : am_R} {g : am_J} {τ : am_T} {Q : am_Q} {x0 x1 x2 x3 x4 : Value} {a : Nat} {j : Int32} (ht : 18 ≤ τ.1 a ∧ τ.1 a ≤ 22) (hj : am_inb j (τ.2.1 a) = true) : AW d 128 91 [x0, x1, x2, x3, x4] (.int j :: .ref a :: st) σ ρ g τ Q = AW d 128 92 [x0, x1, x2, x3, x4] (va_rf (ρ a j.toNatClampNeg) :: st) σ ρ g τ Q := aw_aal m128 d128_91 rfl ht hj
theorem d128_92 : decode cX11_line 92 = .ok (.getfield 296, 3) := by decide +kernel
theorem s128_92 {d : Nat} {st : List Value} {σ : am_I} {ρ : am_R} {g : am_J} {τ : am_T} {Q : am_Q} {x0 x1 x2 x3 x4 : Value} {a : Nat} (ht : τ.1 a = 5) : AW d 128 92 [x0, x1, x2, x3, x4] (.ref a :: st) σ ρ g τ Q = AW d 128 95 [x0, x1, x2, x3, x4] (.int (σ a 1) :: st) σ ρ g τ Q := aw_gi m128 d128_92 rfl rfl rfl ht
theorem d128_95 : decode cX11_line 95 = .ok (.ireturn, 1) := by decide +kernel
theorem s128_95 {d : Nat} {σ : am_I} {ρ : am_R} {g : am_J} {τ : am_T} {Q : am_Q} {x0 x1 x2 x3 x4 : Value} {v : Int32} : AW d 128 95 [x0, x1, x2, x3, x4] ([.int v]) σ ρ g τ Q = Q (some (.int v)) σ ρ g τ := aw_ri m128 d128_95 rfl
theorem d128_96 : decode cX11_line 96 = .ok (.aload 4, 2) := by decide +kernel
theorem s128_96 {d : Nat} {st : List Value} {σ : am_I} {ρ : am_R} {g : am_J} {τ : am_T} {Q : am_Q} {x0 x1 x2 x3 : Value} {v : Nat} : AW d 128 96 [x0, x1, x2, x3, .ref v] (st) σ ρ g τ Q = AW d 128 98 [x0, x1, x2, x3, .ref v] (.ref v :: st) σ ρ g τ Q := aw_lc m128 d128_96 rfl rfl rfl
theorem d128_98 : decode cX11_line 98 = .ok (.iload_n 2, 1) := by decide +kernel
theorem s128_98 {d : Nat} {st : List Value} {σ : am_I} {ρ : am_R} {g : am_J} {τ : am_T} {Q : am_Q} {x0 x1 x3 x4 : Value} {v : Int32} : AW d 128 98 [x0, x1, .int v, x3, x4] (st) σ ρ g τ Q = AW d 128 99 [x0, x1, .int v, x3, x4] (.int v :: st) σ ρ g τ Q := aw_lc m128 d128_98 rfl rfl rfl
theorem d128_99 : decode cX11_line 99 = .ok (.aaload, 1) := by decide +kernel
theorem s128_99 {d : Nat} {st : List Value} {σ : am_I} {ρ : am_R} {g : am_J} {τ : am_T} {Q : am_Q} {x0 x1 x2 x3 x4 : Value} {a : Nat} {j : Int32} (ht : 18 ≤ τ.1 a ∧ τ.1 a ≤ 22) (hj : am_inb j (τ.2.1 a) = true) : AW d 128 99 [x0, x1, x2, x3, x4] (.int j :: .ref a :: st) σ ρ g τ Q = AW d 128 100 [x0, x1, x2, x3, x4] (va_rf (ρ a j.toNatClampNeg) :: st) σ ρ g τ Q := aw_aal m128 d128_99 rfl ht hj
theorem d128_100 : decode cX11_line 100 = .ok (.getfield 299, 3) := by decide +kernel
theorem s128_100 {d : Nat} {st : List Value} {σ : am_I} {ρ : am_R} {g : am_J} {τ : am_T} {Q : am_Q} {x0 x1 x2 x3 x4 : Value} {a : Nat} (ht : τ.1 a = 5) : AW d 128 100 [x0, x1, x2, x3, x4] (.ref a :: st) σ ρ g τ Q = AW d 128 103 [x0, x1, x2, x3, x4] (va_rf (ρ a 3) :: st) σ ρ g τ Q := aw_gr m128 d128_100 rfl rfl rfl ht
theorem d128_103 : decode cX11_line 103 = .ok (.ifnull 7, 3) := by decide +kernel
theorem s128_103 {d : Nat} {st : List Value} {σ : am_I} {ρ : am_R} {g : am_J} {τ : am_T} {Q : am_Q} {x0 x1 x2 x3 x4 : Value} {v : Nat} : AW d 128 103 [x0, x1, x2, x3, x4] (.ref v :: st) σ ρ g τ Q = AW d 128 106 [x0, x1, x2, x3, x4] (st) σ ρ g τ Q := aw_lc m128 d128_103 rfl rfl rfl
theorem s128_103n {d : Nat} {st : List Value} {σ : am_I} {ρ : am_R} {g : am_J} {τ : am_T} {Q : am_Q} {x0 x1 x2 x3 x4 : Value} : AW d 128 103 [x0, x1, x2, x3, x4] (.null :: st) σ ρ g τ Q = AW d 128 110 [x0, x1, x2, x3, x4] (st) σ ρ g τ Q := aw_lc m128 d128_103 rfl rfl rfl
theorem d128_106 : decode cX11_line 106 = .ok (.iconst 1, 1) := by decide +kernel
theorem s128_106 {d : Nat} {st : List Value} {σ : am_I} {ρ : am_R} {g : am_J} {τ : am_T} {Q : am_Q} {x0 x1 x2 x3 x4 : Value} : AW d 128 106 [x0, x1, x2, x3, x4] (st) σ ρ g τ Q = AW d 128 107 [x0, x1, x2, x3, x4] (.int 1 :: st) σ ρ g τ Q := aw_lc m128 d128_106 rfl rfl rfl
theorem d128_107 : decode cX11_line 107 = .ok (.goto 4, 3) := by decide +kernel
theorem s128_107 {d : Nat} {st : List Value} {σ : am_I} {ρ : am_R} {g : am_J} {τ : am_T} {Q : am_Q} {x0 x1 x2 x3 x4 : Value} : AW d 128 107 [x0, x1, x2, x3, x4] (st) σ ρ g τ Q = AW d 128 111 [x0, x1, x2, x3, x4] (st) σ ρ g τ Q := aw_lc m128 d128_107 rfl rfl rfl
theorem d128_110 : decode cX11_line 110 = .ok (.iconst 0, 1) := by decide +kernel
theorem s128_110 {d : Nat} {st : List Value} {σ : am_I} {ρ : am_R} {g : am_J} {τ : am_T} {Q : am_Q} {x0 x1 x2 x3 x4 : Value} : AW d 128 110 [x0, x1, x2, x3, x4] (st) σ ρ g τ Q = AW d 128 111 [x0, x1, x2, x3, x4] (.int 0 :: st) σ ρ g τ Q := aw_lc m128 d128_110 rfl rfl rfl
theorem d128_111 : decode cX11_line 111 = .ok (.ireturn, 1) := by decide +kernel
theorem s128_111 {d : Nat} {σ : am_I} {ρ : am_R} {g : am_J} {τ : am_T} {Q : am_Q} {x0 x1 x2 x3 x4 : Value} {v : Int32} : AW d 128 111 [x0, x1, x2, x3, x4] ([.int v]) σ ρ g τ Q = Q (some (.int v)) σ ρ g τ := aw_ri m128 d128_111 rfl
theorem d128_112 : decode cX11_line 112 = .ok (.aload 4, 2) := by decide +kernel
theorem s128_112 {d : Nat} {st : List Value} {σ : am_I} {ρ : am_R} {g : am_J} {τ : am_T} {Q : am_Q} {x0 x1 x2 x3 : Value} {v : Nat} : AW d 128 112 [x0, x1, x2, x3, .ref v] (st) σ ρ g τ Q = AW d 128 114 [x0, x1, x2, x3, .ref v] (.ref v :: st) σ ρ g τ Q := aw_lc m128 d128_112 rfl rfl rfl
theorem d128_114 : decode cX11_line 114 = .ok (.iload_n 2, 1) := by decide +kernel
theorem s128_114 {d : Nat} {st : List Value} {σ : am_I} {ρ : am_R} {g : am_J} {τ : am_T} {Q : am_Q} {x0 x1 x3 x4 : Value} {v : Int32} : AW d 128 114 [x0, x1, .int v, x3, x4] (st) σ ρ g τ Q = AW d 128 115 [x0, x1, .int v, x3, x4] (.int v :: st) σ ρ g τ Q := aw_lc m128 d128_114 rfl rfl rfl
theorem d128_115 : decode cX11_line 115 = .ok (.aaload, 1) := by decide +kernel
theorem s128_115 {d : Nat} {st : List Value} {σ : am_I} {ρ : am_R} {g : am_J} {τ : am_T} {Q : am_Q} {x0 x1 x2 x3 x4 : Value} {a : Nat} {j : Int32} (ht : 18 ≤ τ.1 a ∧ τ.1 a ≤ 22) (hj : am_inb j (τ.2.1 a) = true) : AW d 128 115 [x0, x1, x2, x3, x4] (.int j :: .ref a :: st) σ ρ g τ Q = AW d 128 116 [x0, x1, x2, x3, x4] (va_rf (ρ a j.toNatClampNeg) :: st) σ ρ g τ Q := aw_aal m128 d128_115 rfl ht hj
theorem d128_116 : decode cX11_line 116 = .ok (.getfield 302, 3) := by decide +kernel
theorem s128_116 {d : Nat} {st : List Value} {σ : am_I} {ρ : am_R} {g : am_J} {τ : am_T} {Q : am_Q} {x0 x1 x2 x3 x4 : Value} {a : Nat} (ht : τ.1 a = 5) : AW d 128 116 [x0, x1, x2, x3, x4] (.ref a :: st) σ ρ g τ Q = AW d 128 119 [x0, x1, x2, x3, x4] (.int (σ a 2) :: st) σ ρ g τ Q := aw_gi m128 d128_116 rfl rfl rfl ht
theorem d128_119 : decode cX11_line 119 = .ok (.ireturn, 1) := by decide +kernel
theorem s128_119 {d : Nat} {σ : am_I} {ρ : am_R} {g : am_J} {τ : am_T} {Q : am_Q} {x0 x1 x2 x3 x4 : Value} {v : Int32} : AW d 128 119 [x0, x1, x2, x3, x4] ([.int v]) σ ρ g τ Q = Q (some (.int v)) σ ρ g τ := aw_ri m128 d128_119 rfl
theorem d128_120 : decode cX11_line 120 = .ok (.bipush (-9), 2) := by decide +kernel
theorem s128_120 {d : Nat} {st : List Value} {σ : am_I} {ρ : am_R} {g : am_J} {τ : am_T} {Q : am_Q} {x0 x1 x2 x3 x4 : Value} : AW d 128 120 [x0, x1, x2, x3, x4] (st) σ ρ g τ Q = AW d 128 122 [x0, x1, x2, x3, x4] (.int (-9) :: st) σ ρ g τ Q := aw_lc m128 d128_120 rfl rfl rfl
theorem d128_122 : decode cX11_line 122 = .ok (.ireturn, 1) := by decide +kernel
theorem s128_122 {d : Nat} {σ : am_I} {ρ : am_R} {g : am_J} {τ : am_T} {Q : am_Q} {x0 x1 x2 x3 x4 : Value} {v : Int32} : AW d 128 122 [x0, x1, x2, x3, x4] ([.int v]) σ ρ g τ Q = Q (some (.int v)) σ ρ g τ := aw_ri m128 d128_122 rfl
theorem d129_0 : decode cX11_why 0 = .ok (.aload_n 0, 1) := by decide +kernel
theorem s129_0 {d : Nat} {st : List Value} {σ : am_I} {ρ : am_R} {g : am_J} {τ : am_T} {Q : am_Q} {x1 x2 x3 x4 : Value} {v : Nat} : AW d 129 0 [.ref v, x1, x2, x3, x4] (st) σ ρ g τ Q = AW d 129 1 [.ref v, x1, x2, x3, x4] (.ref v :: st) σ ρ g τ Q := aw_lc m129 d129_0 rfl rfl rfl
theorem d129_1 : decode cX11_why 1 = .ok (.getfield 10, 3) := by decide +kernel
theorem s129_1 {d : Nat} {st : List Value} {σ : am_I} {ρ : am_R} {g : am_J} {τ : am_T} {Q : am_Q} {x0 x1 x2 x3 x4 : Value} {a : Nat} (ht : τ.1 a = 11) : AW d 129 1 [x0, x1, x2, x3, x4] (.ref a :: st) σ ρ g τ Q = AW d 129 4 [x0, x1, x2, x3, x4] (va_rf (ρ a 0) :: st) σ ρ g τ Q := aw_gr m129 d129_1 rfl rfl rfl ht
theorem d129_4 : decode cX11_why 4 = .ok (.iload_n 1, 1) := by decide +kernel
theorem s129_4 {d : Nat} {st : List Value} {σ : am_I} {ρ : am_R} {g : am_J} {τ : am_T} {Q : am_Q} {x0 x2 x3 x4 : Value} {v : Int32} : AW d 129 4 [x0, .int v, x2, x3, x4] (st) σ ρ g τ Q = AW d 129 5 [x0, .int v, x2, x3, x4] (.int v :: st) σ ρ g τ Q := aw_lc m129 d129_4 rfl rfl rfl
theorem d129_5 : decode cX11_why 5 = .ok (.invokevirtual 206, 3) := by decide +kernel
theorem s129_5 {d : Nat} {st : List Value} {σ : am_I} {ρ : am_R} {g : am_J} {τ : am_T} {Q : am_Q} {x0 x1 x2 x3 x4 : Value} {p0 : Nat} {p1 : Int32} (ht : τ.1 p0 = 3) (hs : st.length ≤ 4) : AW (d + 1) 129 5 [x0, x1, x2, x3, x4] (.int p1 :: .ref p0 :: st) σ ρ g τ Q = AW d 24 0 [.ref p0, .int p1] [] σ ρ g τ (fun r9 σ ρ g τ => AW (d + 1) 129 8 [x0, x1, x2, x3, x4] (r9.toList ++ st) σ ρ g τ Q) := aw_cv m129 d129_5 rfl m24 rfl rfl (by decide) en24 ok24 rfl ht hs
theorem d129_8 : decode cX11_why 8 = .ok (.ifCond .eq 19, 3) := by decide +kernel
theorem s129_8 {d : Nat} {st : List Value} {σ : am_I} {ρ : am_R} {g : am_J} {τ : am_T} {Q : am_Q} {x0 x1 x2 x3 x4 : Value} {v : Int32} : AW d 129 8 [x0, x1, x2, x3, x4] (.int v :: st) σ ρ g τ Q = if v = 0 then AW d 129 27 [x0, x1, x2, x3, x4] (st) σ ρ g τ Q else AW d 129 11 [x0, x1, x2, x3, x4] (st) σ ρ g τ Q := aw_br m129 d129_8 rfl rfl rfl
theorem d129_11 : decode cX11_why 11 = .ok (.iload_n 2, 1) := by decide +kernel
theorem s129_11 {d : Nat} {st : List Value} {σ : am_I} {ρ : am_R} {g : am_J} {τ : am_T} {Q : am_Q} {x0 x1 x3 x4 : Value} {v : Int32} : AW d 129 11 [x0, x1, .int v, x3, x4] (st) σ ρ g τ Q = AW d 129 12 [x0, x1, .int v, x3, x4] (.int v :: st) σ ρ g τ Q := aw_lc m129 d129_11 rfl rfl rfl
theorem d129_12 : decode cX11_why 12 = .ok (.invokestatic 149, 3) := by decide +kernel
theorem s129_12 {d : Nat} {st : List Value} {σ : am_I} {ρ : am_R} {g : am_J} {τ : am_T} {Q : am_Q} {x0 x1 x2 x3 x4 : Value} {p0 : Int32} (hs : st.length ≤ 4) : AW (d + 1) 129 12 [x0, x1, x2, x3, x4] (.int p0 :: st) σ ρ g τ Q = AW d 101 0 [.int p0] [] σ ρ g τ (fun r9 σ ρ g τ => AW (d + 1) 129 15 [x0, x1, x2, x3, x4] (r9.toList ++ st) σ ρ g τ Q) := aw_cs m129 d129_12 rfl (by simp only [List.length_cons]; omega) rfl rfl en101 ok101 rfl hs
theorem d129_15 : decode cX11_why 15 = .ok (.ifCond .eq 12, 3) := by decide +kernel
theorem s129_15 {d : Nat} {st : List Value} {σ : am_I} {ρ : am_R} {g : am_J} {τ : am_T} {Q : am_Q} {x0 x1 x2 x3 x4 : Value} {v : Int32} : AW d 129 15 [x0, x1, x2, x3, x4] (.int v :: st) σ ρ g τ Q = if v = 0 then AW d 129 27 [x0, x1, x2, x3, x4] (st) σ ρ g τ Q else AW d 129 18 [x0, x1, x2, x3, x4] (st) σ ρ g τ Q := aw_br m129 d129_15 rfl rfl rfl
theorem d129_18 : decode cX11_why 18 = .ok (.iload_n 3, 1) := by decide +kernel
theorem s129_18 {d : Nat} {st : List Value} {σ : am_I} {ρ : am_R} {g : am_J} {τ : am_T} {Q : am_Q} {x0 x1 x2 x4 : Value} {v : Int32} : AW d 129 18 [x0, x1, x2, .int v, x4] (st) σ ρ g τ Q = AW d 129 19 [x0, x1, x2, .int v, x4] (.int v :: st) σ ρ g τ Q := aw_lc m129 d129_18 rfl rfl rfl
theorem d129_19 : decode cX11_why 19 = .ok (.iconst 0, 1) := by decide +kernel
theorem s129_19 {d : Nat} {st : List Value} {σ : am_I} {ρ : am_R} {g : am_J} {τ : am_T} {Q : am_Q} {x0 x1 x2 x3 x4 : Value} : AW d 129 19 [x0, x1, x2, x3, x4] (st) σ ρ g τ Q = AW d 129 20 [x0, x1, x2, x3, x4] (.int 0 :: st) σ ρ g τ Q := aw_lc m129 d129_19 rfl rfl rfl
theorem d129_20 : decode cX11_why 20 = .ok (.iconst 2, 1) := by decide +kernel
theorem s129_20 {d : Nat} {st : List Value} {σ : am_I} {ρ : am_R} {g : am_J} {τ : am_T} {Q : am_Q} {x0 x1 x2 x3 x4 : Value} : AW d 129 20 [x0, x1, x2, x3, x4] (st) σ ρ g τ Q = AW d 129 21 [x0, x1, x2, x3, x4] (.int 2 :: st) σ ρ g τ Q := aw_lc m129 d129_20 rfl rfl rfl
theorem d129_21 : decode cX11_why 21 = .ok (.invokestatic 74, 3) := by decide +kernel
theorem s129_21 {d : Nat} {st : List Value} {σ : am_I} {ρ : am_R} {g : am_J} {τ : am_T} {Q : am_Q} {x0 x1 x2 x3 x4 : Value} {p0 : Int32} {p1 : Int32} {p2 : Int32} (hs : st.length ≤ 4) : AW (d + 1) 129 21 [x0, x1, x2, x3, x4] (.int p2 :: .int p1 :: .int p0 :: st) σ ρ g τ Q = AW d 100 0 [.int p0, .int p1, .int p2] [] σ ρ g τ (fun r9 σ ρ g τ => AW (d + 1) 129 24 [x0, x1, x2, x3, x4] (r9.toList ++ st) σ ρ g τ Q) := aw_cs m129 d129_21 rfl (by simp only [List.length_cons]; omega) rfl rfl en100 ok100 rfl hs
theorem d129_24 : decode cX11_why 24 = .ok (.ifCond .ne 5, 3) := by decide +kernel
theorem s129_24 {d : Nat} {st : List Value} {σ : am_I} {ρ : am_R} {g : am_J} {τ : am_T} {Q : am_Q} {x0 x1 x2 x3 x4 : Value} {v : Int32} : AW d 129 24 [x0, x1, x2, x3, x4] (.int v :: st) σ ρ g τ Q = if ¬ v = 0 then AW d 129 29 [x0, x1, x2, x3, x4] (st) σ ρ g τ Q else AW d 129 27 [x0, x1, x2, x3, x4] (st) σ ρ g τ Q := aw_br m129 d129_24 rfl rfl rfl
theorem d129_27 : decode cX11_why 27 = .ok (.iconst (-1), 1) := by decide +kernel
theorem s129_27 {d : Nat} {st : List Value} {σ : am_I} {ρ : am_R} {g : am_J} {τ : am_T} {Q : am_Q} {x0 x1 x2 x3 x4 : Value} : AW d 129 27 [x0, x1, x2, x3, x4] (st) σ ρ g τ Q = AW d 129 28 [x0, x1, x2, x3, x4] (.int (-1) :: st) σ ρ g τ Q := aw_lc m129 d129_27 rfl rfl rfl
theorem d129_28 : decode cX11_why 28 = .ok (.ireturn, 1) := by decide +kernel
theorem s129_28 {d : Nat} {σ : am_I} {ρ : am_R} {g : am_J} {τ : am_T} {Q : am_Q} {x0 x1 x2 x3 x4 : Value} {v : Int32} : AW d 129 28 [x0, x1, x2, x3, x4] ([.int v]) σ ρ g τ Q = Q (some (.int v)) σ ρ g τ := aw_ri m129 d129_28 rfl
theorem d129_29 : decode cX11_why 29 = .ok (.aload_n 0, 1) := by decide +kernel
theorem s129_29 {d : Nat} {st : List Value} {σ : am_I} {ρ : am_R} {g : am_J} {τ : am_T} {Q : am_Q} {x1 x2 x3 x4 : Value} {v : Nat} : AW d 129 29 [.ref v, x1, x2, x3, x4] (st) σ ρ g τ Q = AW d 129 30 [.ref v, x1, x2, x3, x4] (.ref v :: st) σ ρ g τ Q := aw_lc m129 d129_29 rfl rfl rfl
theorem d129_30 : decode cX11_why 30 = .ok (.getfield 10, 3) := by decide +kernel
theorem s129_30 {d : Nat} {st : List Value} {σ : am_I} {ρ : am_R} {g : am_J} {τ : am_T} {Q : am_Q} {x0 x1 x2 x3 x4 : Value} {a : Nat} (ht : τ.1 a = 11) : AW d 129 30 [x0, x1, x2, x3, x4] (.ref a :: st) σ ρ g τ Q = AW d 129 33 [x0, x1, x2, x3, x4] (va_rf (ρ a 0) :: st) σ ρ g τ Q := aw_gr m129 d129_30 rfl rfl rfl ht
theorem d129_33 : decode cX11_why 33 = .ok (.iload_n 2, 1) := by decide +kernel
theorem s129_33 {d : Nat} {st : List Value} {σ : am_I} {ρ : am_R} {g : am_J} {τ : am_T} {Q : am_Q} {x0 x1 x3 x4 : Value} {v : Int32} : AW d 129 33 [x0, x1, .int v, x3, x4] (st) σ ρ g τ Q = AW d 129 34 [x0, x1, .int v, x3, x4] (.int v :: st) σ ρ g τ Q := aw_lc m129 d129_33 rfl rfl rfl
theorem d129_34 : decode cX11_why 34 = .ok (.invokevirtual 213, 3) := by decide +kernel
theorem s129_34 {d : Nat} {st : List Value} {σ : am_I} {ρ : am_R} {g : am_J} {τ : am_T} {Q : am_Q} {x0 x1 x2 x3 x4 : Value} {p0 : Nat} {p1 : Int32} (ht : τ.1 p0 = 3) (hs : st.length ≤ 4) : AW (d + 1) 129 34 [x0, x1, x2, x3, x4] (.int p1 :: .ref p0 :: st) σ ρ g τ Q = AW d 26 0 [.ref p0, .int p1, am_jk] [] σ ρ g τ (fun r9 σ ρ g τ => AW (d + 1) 129 37 [x0, x1, x2, x3, x4] (r9.toList ++ st) σ ρ g τ Q) := aw_cv m129 d129_34 rfl m26 rfl rfl (by decide) en26 ok26 rfl ht hs
theorem d129_37 : decode cX11_why 37 = .ok (.iload_n 3, 1) := by decide +kernel
theorem s129_37 {d : Nat} {st : List Value} {σ : am_I} {ρ : am_R} {g : am_J} {τ : am_T} {Q : am_Q} {x0 x1 x2 x4 : Value} {v : Int32} : AW d 129 37 [x0, x1, x2, .int v, x4] (st) σ ρ g τ Q = AW d 129 38 [x0, x1, x2, .int v, x4] (.int v :: st) σ ρ g τ Q := aw_lc m129 d129_37 rfl rfl rfl
theorem d129_38 : decode cX11_why 38 = .ok (.aload_n 0, 1) := by decide +kernel
theorem s129_38 {d : Nat} {st : List Value} {σ : am_I} {ρ : am_R} {g : am_J} {τ : am_T} {Q : am_Q} {x1 x2 x3 x4 : Value} {v : Nat} : AW d 129 38 [.ref v, x1, x2, x3, x4] (st) σ ρ g τ Q = AW d 129 39 [.ref v, x1, x2, x3, x4] (.ref v :: st) σ ρ g τ Q := aw_lc m129 d129_38 rfl rfl rfl
theorem d129_39 : decode cX11_why 39 = .ok (.getfield 10, 3) := by decide +kernel
theorem s129_39 {d : Nat} {st : List Value} {σ : am_I} {ρ : am_R} {g : am_J} {τ : am_T} {Q : am_Q} {x0 x1 x2 x3 x4 : Value} {a : Nat} (ht : τ.1 a = 11) : AW d 129 39 [x0, x1, x2, x3, x4] (.ref a :: st) σ ρ g τ Q = AW d 129 42 [x0, x1, x2, x3, x4] (va_rf (ρ a 0) :: st) σ ρ g τ Q := aw_gr m129 d129_39 rfl rfl rfl ht
theorem d129_42 : decode cX11_why 42 = .ok (.getfield 209, 3) := by decide +kernel
theorem s129_42 {d : Nat} {st : List Value} {σ : am_I} {ρ : am_R} {g : am_J} {τ : am_T} {Q : am_Q} {x0 x1 x2 x3 x4 : Value} {a : Nat} (ht : τ.1 a = 3) : AW d 129 42 [x0, x1, x2, x3, x4] (.ref a :: st) σ ρ g τ Q = AW d 129 45 [x0, x1, x2, x3, x4] (va_rf (ρ a 7) :: st) σ ρ g τ Q := aw_gr m129 d129_42 rfl rfl rfl ht
theorem d129_45 : decode cX11_why 45 = .ok (.iload_n 1, 1) := by decide +kernel
theorem s129_45 {d : Nat} {st : List Value} {σ : am_I} {ρ : am_R} {g : am_J} {τ : am_T} {Q : am_Q} {x0 x2 x3 x4 : Value} {v : Int32} : AW d 129 45 [x0, .int v, x2, x3, x4] (st) σ ρ g τ Q = AW d 129 46 [x0, .int v, x2, x3, x4] (.int v :: st) σ ρ g τ Q := aw_lc m129 d129_45 rfl rfl rfl
theorem d129_46 : decode cX11_why 46 = .ok (.aaload, 1) := by decide +kernel
theorem s129_46 {d : Nat} {st : List Value} {σ : am_I} {ρ : am_R} {g : am_J} {τ : am_T} {Q : am_Q} {x0 x1 x2 x3 x4 : Value} {a : Nat} {j : Int32} (ht : 18 ≤ τ.1 a ∧ τ.1 a ≤ 22) (hj : am_inb j (τ.2.1 a) = true) : AW d 129 46 [x0, x1, x2, x3, x4] (.int j :: .ref a :: st) σ ρ g τ Q = AW d 129 47 [x0, x1, x2, x3, x4] (va_rf (ρ a j.toNatClampNeg) :: st) σ ρ g τ Q := aw_aal m129 d129_46 rfl ht hj
theorem d129_47 : decode cX11_why 47 = .ok (.iload_n 2, 1) := by decide +kernel
theorem s129_47 {d : Nat} {st : List Value} {σ : am_I} {ρ : am_R} {g : am_J} {τ : am_T} {Q : am_Q} {x0 x1 x3 x4 : Value} {v : Int32} : AW d 129 47 [x0, x1, .int v, x3, x4] (st) σ ρ g τ Q = AW d 129 48 [x0, x1, .int v, x3, x4] (.int v :: st) σ ρ g τ Q := aw_lc m129 d129_47 rfl rfl rfl
theorem d129_48 : decode cX11_why 48 = .ok (.invokevirtual 305, 3) := by decide +kernel
theorem s129_48 {d : Nat} {st : List Value} {σ : am_I} {ρ : am_R} {g : am_J} {τ : am_T} {Q : am_Q} {x0 x1 x2 x3 x4 : Value} {p0 : Nat} {p1 : Int32} {p2 : Nat} {p3 : Int32} (ht : τ.1 p0 = 9) (hs : st.length ≤ 4) : AW (d + 1) 129 48 [x0, x1, x2, x3, x4] (.int p3 :: .ref p2 :: .int p1 :: .ref p0 :: st) σ ρ g τ Q = AW d 69 0 [.ref p0, .int p1, .ref p2, .int p3, am_jk] [] σ ρ g τ (fun r9 σ ρ g τ => AW (d + 1) 129 51 [x0, x1, x2, x3, x4] (r9.toList ++ st) σ ρ g τ Q) := aw_cv m129 d129_48 rfl m69 rfl rfl (by decide) en69 ok69 rfl ht hs
theorem d129_51 : decode cX11_why 51 = .ok (.istore 4, 2) := by decide +kernel
theorem s129_51 {d : Nat} {st : List Value} {σ : am_I} {ρ : am_R} {g : am_J} {τ : am_T} {Q : am_Q} {x0 x1 x2 x4 : Value} {v : Int32} {u : Int32} : AW d 129 51 [x0, x1, x2, .int u, x4] (.int v :: st) σ ρ g τ Q = AW d 129 53 [x0, x1, x2, .int u, .int v] (st) σ ρ g τ Q := aw_lc m129 d129_51 rfl rfl rfl
theorem d129_53 : decode cX11_why 53 = .ok (.iload 4, 2) := by decide +kernel
theorem s129_53 {d : Nat} {st : List Value} {σ : am_I} {ρ : am_R} {g : am_J} {τ : am_T} {Q : am_Q} {x0 x1 x2 x3 : Value} {v : Int32} : AW d 129 53 [x0, x1, x2, x3, .int v] (st) σ ρ g τ Q = AW d 129 55 [x0, x1, x2, x3, .int v] (.int v :: st) σ ρ g τ Q := aw_lc m129 d129_53 rfl rfl rfl
theorem d129_55 : decode cX11_why 55 = .ok (.ifCond .ge 8, 3) := by decide +kernel
theorem s129_55 {d : Nat} {st : List Value} {σ : am_I} {ρ : am_R} {g : am_J} {τ : am_T} {Q : am_Q} {x0 x1 x2 x3 x4 : Value} {v : Int32} : AW d 129 55 [x0, x1, x2, x3, x4] (.int v :: st) σ ρ g τ Q = if 0 ≤ v then AW d 129 63 [x0, x1, x2, x3, x4] (st) σ ρ g τ Q else AW d 129 58 [x0, x1, x2, x3, x4] (st) σ ρ g τ Q := aw_br m129 d129_55 rfl rfl rfl
theorem d129_58 : decode cX11_why 58 = .ok (.bipush (-3), 2) := by decide +kernel
theorem s129_58 {d : Nat} {st : List Value} {σ : am_I} {ρ : am_R} {g : am_J} {τ : am_T} {Q : am_Q} {x0 x1 x2 x3 x4 : Value} : AW d 129 58 [x0, x1, x2, x3, x4] (st) σ ρ g τ Q = AW d 129 60 [x0, x1, x2, x3, x4] (.int (-3) :: st) σ ρ g τ Q := aw_lc m129 d129_58 rfl rfl rfl
theorem d129_60 : decode cX11_why 60 = .ok (.goto 5, 3) := by decide +kernel
theorem s129_60 {d : Nat} {st : List Value} {σ : am_I} {ρ : am_R} {g : am_J} {τ : am_T} {Q : am_Q} {x0 x1 x2 x3 x4 : Value} : AW d 129 60 [x0, x1, x2, x3, x4] (st) σ ρ g τ Q = AW d 129 65 [x0, x1, x2, x3, x4] (st) σ ρ g τ Q := aw_lc m129 d129_60 rfl rfl rfl
theorem d129_63 : decode cX11_why 63 = .ok (.iload 4, 2) := by decide +kernel
theorem s129_63 {d : Nat} {st : List Value} {σ : am_I} {ρ : am_R} {g : am_J} {τ : am_T} {Q : am_Q} {x0 x1 x2 x3 : Value} {v : Int32} : AW d 129 63 [x0, x1, x2, x3, .int v] (st) σ ρ g τ Q = AW d 129 65 [x0, x1, x2, x3, .int v] (.int v :: st) σ ρ g τ Q := aw_lc m129 d129_63 rfl rfl rfl
theorem d129_65 : decode cX11_why 65 = .ok (.ireturn, 1) := by decide +kernel
theorem s129_65 {d : Nat} {σ : am_I} {ρ : am_R} {g : am_J} {τ : am_T} {Q : am_Q} {x0 x1 x2 x3 x4 : Value} {v : Int32} : AW d 129 65 [x0, x1, x2, x3, x4] ([.int v]) σ ρ g τ Q = Q (some (.int v)) σ ρ g τ := aw_ri m129 d129_65 rfl
theorem d130_0 : decode cX11_gets 0 = .ok (.aload_n 0, 1) := by decide +kernel
theorem s130_0 {d : Nat} {st : List Value} {σ : am_I} {ρ : am_R} {g : am_J} {τ : am_T} {Q : am_Q} {x1 x2 x3 : Value} {v : Nat} : AW d 130 0 [.ref v, x1, x2, x3] (st) σ ρ g τ Q = AW d 130 1 [.ref v, x1, x2, x3] (.ref v :: st) σ ρ g τ Q := aw_lc m130 d130_0 rfl rfl rfl
theorem d130_1 : decode cX11_gets 1 = .ok (.getfield 10, 3) := by decide +kernel
theorem s130_1 {d : Nat} {st : List Value} {σ : am_I} {ρ : am_R} {g : am_J} {τ : am_T} {Q : am_Q} {x0 x1 x2 x3 : Value} {a : Nat} (ht : τ.1 a = 11) : AW d 130 1 [x0, x1, x2, x3] (.ref a :: st) σ ρ g τ Q = AW d 130 4 [x0, x1, x2, x3] (va_rf (ρ a 0) :: st) σ ρ g τ Q := aw_gr m130 d130_1 rfl rfl rfl ht
theorem d130_4 : decode cX11_gets 4 = .ok (.iload_n 1, 1) := by decide +kernel
theorem s130_4 {d : Nat} {st : List Value} {σ : am_I} {ρ : am_R} {g : am_J} {τ : am_T} {Q : am_Q} {x0 x2 x3 : Value} {v : Int32} : AW d 130 4 [x0, .int v, x2, x3] (st) σ ρ g τ Q = AW d 130 5 [x0, .int v, x2, x3] (.int v :: st) σ ρ g τ Q := aw_lc m130 d130_4 rfl rfl rfl
theorem d130_5 : decode cX11_gets 5 = .ok (.invokevirtual 206, 3) := by decide +kernel
theorem s130_5 {d : Nat} {st : List Value} {σ : am_I} {ρ : am_R} {g : am_J} {τ : am_T} {Q : am_Q} {x0 x1 x2 x3 : Value} {p0 : Nat} {p1 : Int32} (ht : τ.1 p0 = 3) (hs : st.length ≤ 4) : AW (d + 1) 130 5 [x0, x1, x2, x3] (.int p1 :: .ref p0 :: st) σ ρ g τ Q = AW d 24 0 [.ref p0, .int p1] [] σ ρ g τ (fun r9 σ ρ g τ => AW (d + 1) 130 8 [x0, x1, x2, x3] (r9.toList ++ st) σ ρ g τ Q) := aw_cv m130 d130_5 rfl m24 rfl rfl (by decide) en24 ok24 rfl ht hs
theorem d130_8 : decode cX11_gets 8 = .ok (.ifCond .eq 21, 3) := by decide +kernel
theorem s130_8 {d : Nat} {st : List Value} {σ : am_I} {ρ : am_R} {g : am_J} {τ : am_T} {Q : am_Q} {x0 x1 x2 x3 : Value} {v : Int32} : AW d 130 8 [x0, x1, x2, x3] (.int v :: st) σ ρ g τ Q = if v = 0 then AW d 130 29 [x0, x1, x2, x3] (st) σ ρ g τ Q else AW d 130 11 [x0, x1, x2, x3] (st) σ ρ g τ Q := aw_br m130 d130_8 rfl rfl rfl
theorem d130_11 : decode cX11_gets 11 = .ok (.iload_n 2, 1) := by decide +kernel
theorem s130_11 {d : Nat} {st : List Value} {σ : am_I} {ρ : am_R} {g : am_J} {τ : am_T} {Q : am_Q} {x0 x1 x3 : Value} {v : Int32} : AW d 130 11 [x0, x1, .int v, x3] (st) σ ρ g τ Q = AW d 130 12 [x0, x1, .int v, x3] (.int v :: st) σ ρ g τ Q := aw_lc m130 d130_11 rfl rfl rfl
theorem d130_12 : decode cX11_gets 12 = .ok (.invokestatic 149, 3) := by decide +kernel
theorem s130_12 {d : Nat} {st : List Value} {σ : am_I} {ρ : am_R} {g : am_J} {τ : am_T} {Q : am_Q} {x0 x1 x2 x3 : Value} {p0 : Int32} (hs : st.length ≤ 4) : AW (d + 1) 130 12 [x0, x1, x2, x3] (.int p0 :: st) σ ρ g τ Q = AW d 101 0 [.int p0] [] σ ρ g τ (fun r9 σ ρ g τ => AW (d + 1) 130 15 [x0, x1, x2, x3] (r9.toList ++ st) σ ρ g τ Q) := aw_cs m130 d130_12 rfl (by simp only [List.length_cons]; omega) rfl rfl en101 ok101 rfl hs
theorem d130_15 : decode cX11_gets 15 = .ok (.ifCond .eq 14, 3) := by decide +kernel
theorem s130_15 {d : Nat} {st : List Value} {σ : am_I} {ρ : am_R} {g : am_J} {τ : am_T} {Q : am_Q} {x0 x1 x2 x3 : Value} {v : Int32} : AW d 130 15 [x0, x1, x2, x3] (.int v :: st) σ ρ g τ Q = if v = 0 then AW d 130 29 [x0, x1, x2, x3] (st) σ ρ g τ Q else AW d 130 18 [x0, x1, x2, x3] (st) σ ρ g τ Q := aw_br m130 d130_15 rfl rfl rfl
theorem d130_18 : decode cX11_gets 18 = .ok (.iload_n 3, 1) := by decide +kernel
theorem s130_18 {d : Nat} {st : List Value} {σ : am_I} {ρ : am_R} {g : am_J} {τ : am_T} {Q : am_Q} {x0 x1 x2 : Value} {v : Int32} : AW d 130 18 [x0, x1, x2, .int v] (st) σ ρ g τ Q = AW d 130 19 [x0, x1, x2, .int v] (.int v :: st) σ ρ g τ Q := aw_lc m130 d130_18 rfl rfl rfl
theorem d130_19 : decode cX11_gets 19 = .ok (.iconst 0, 1) := by decide +kernel
theorem s130_19 {d : Nat} {st : List Value} {σ : am_I} {ρ : am_R} {g : am_J} {τ : am_T} {Q : am_Q} {x0 x1 x2 x3 : Value} : AW d 130 19 [x0, x1, x2, x3] (st) σ ρ g τ Q = AW d 130 20 [x0, x1, x2, x3] (.int 0 :: st) σ ρ g τ Q := aw_lc m130 d130_19 rfl rfl rfl
theorem d130_20 : decode cX11_gets 20 = .ok (.sipush 9999, 3) := by decide +kernel
theorem s130_20 {d : Nat} {st : List Value} {σ : am_I} {ρ : am_R} {g : am_J} {τ : am_T} {Q : am_Q} {x0 x1 x2 x3 : Value} : AW d 130 20 [x0, x1, x2, x3] (st) σ ρ g τ Q = AW d 130 23 [x0, x1, x2, x3] (.int 9999 :: st) σ ρ g τ Q := aw_lc m130 d130_20 rfl rfl rfl
theorem d130_23 : decode cX11_gets 23 = .ok (.invokestatic 74, 3) := by decide +kernel
theorem s130_23 {d : Nat} {st : List Value} {σ : am_I} {ρ : am_R} {g : am_J} {τ : am_T} {Q : am_Q} {x0 x1 x2 x3 : Value} {p0 : Int32} {p1 : Int32} {p2 : Int32} (hs : st.length ≤ 4) : AW (d + 1) 130 23 [x0, x1, x2, x3] (.int p2 :: .int p1 :: .int p0 :: st) σ ρ g τ Q = AW d 100 0 [.int p0, .int p1, .int p2] [] σ ρ g τ (fun r9 σ ρ g τ => AW (d + 1) 130 26 [x0, x1, x2, x3] (r9.toList ++ st) σ ρ g τ Q) := aw_cs m130 d130_23 rfl (by simp only [List.length_cons]; omega) rfl rfl en100 ok100 rfl hs
theorem d130_26 : decode cX11_gets 26 = .ok (.ifCond .ne 5, 3) := by decide +kernel
theorem s130_26 {d : Nat} {st : List Value} {σ : am_I} {ρ : am_R} {g : am_J} {τ : am_T} {Q : am_Q} {x0 x1 x2 x3 : Value} {v : Int32} : AW d 130 26 [x0, x1, x2, x3] (.int v :: st) σ ρ g τ Q = if ¬ v = 0 then AW d 130 31 [x0, x1, x2, x3] (st) σ ρ g τ Q else AW d 130 29 [x0, x1, x2, x3] (st) σ ρ g τ Q := aw_br m130 d130_26 rfl rfl rfl
theorem d130_29 : decode cX11_gets 29 = .ok (.iconst (-1), 1) := by decide +kernel
theorem s130_29 {d : Nat} {st : List Value} {σ : am_I} {ρ : am_R} {g : am_J} {τ : am_T} {Q : am_Q} {x0 x1 x2 x3 : Value} : AW d 130 29 [x0, x1, x2, x3] (st) σ ρ g τ Q = AW d 130 30 [x0, x1, x2, x3] (.int (-1) :: st) σ ρ g τ Q := aw_lc m130 d130_29 rfl rfl rfl
theorem d130_30 : decode cX11_gets 30 = .ok (.ireturn, 1) := by decide +kernel
theorem s130_30 {d : Nat} {σ : am_I} {ρ : am_R} {g : am_J} {τ : am_T} {Q : am_Q} {x0 x1 x2 x3 : Value} {v : Int32} : AW d 130 30 [x0, x1, x2, x3] ([.int v]) σ ρ g τ Q = Q (some (.int v)) σ ρ g τ := aw_ri m130 d130_30 rfl
theorem d130_31 : decode cX11_gets 31 = .ok (.aload_n 0, 1) := by decide +kernel
theorem s130_31 {d : Nat} {st : List Value} {σ : am_I} {ρ : am_R} {g : am_J} {τ : am_T} {Q : am_Q} {x1 x2 x3 : Value} {v : Nat} : AW d 130 31 [.ref v, x1, x2, x3] (st) σ ρ g τ Q = AW d 130 32 [.ref v, x1, x2, x3] (.ref v :: st) σ ρ g τ Q := aw_lc m130 d130_31 rfl rfl rfl
theorem d130_32 : decode cX11_gets 32 = .ok (.getfield 33, 3) := by decide +kernel
theorem s130_32 {d : Nat} {st : List Value} {σ : am_I} {ρ : am_R} {g : am_J} {τ : am_T} {Q : am_Q} {x0 x1 x2 x3 : Value} {a : Nat} (ht : τ.1 a = 11) : AW d 130 32 [x0, x1, x2, x3] (.ref a :: st) σ ρ g τ Q = AW d 130 35 [x0, x1, x2, x3] (va_rf (ρ a 4) :: st) σ ρ g τ Q := aw_gr m130 d130_32 rfl rfl rfl ht
theorem d130_35 : decode cX11_gets 35 = .ok (.aload_n 0, 1) := by decide +kernel
theorem s130_35 {d : Nat} {st : List Value} {σ : am_I} {ρ : am_R} {g : am_J} {τ : am_T} {Q : am_Q} {x1 x2 x3 : Value} {v : Nat} : AW d 130 35 [.ref v, x1, x2, x3] (st) σ ρ g τ Q = AW d 130 36 [.ref v, x1, x2, x3] (.ref v :: st) σ ρ g τ Q := aw_lc m130 d130_35 rfl rfl rfl
theorem d130_36 : decode cX11_gets 36 = .ok (.getfield 10, 3) := by decide +kernel
theorem s130_36 {d : Nat} {st : List Value} {σ : am_I} {ρ : am_R} {g : am_J} {τ : am_T} {Q : am_Q} {x0 x1 x2 x3 : Value} {a : Nat} (ht : τ.1 a = 11) : AW d 130 36 [x0, x1, x2, x3] (.ref a :: st) σ ρ g τ Q = AW d 130 39 [x0, x1, x2, x3] (va_rf (ρ a 0) :: st) σ ρ g τ Q := aw_gr m130 d130_36 rfl rfl rfl ht
theorem d130_39 : decode cX11_gets 39 = .ok (.aload_n 0, 1) := by decide +kernel
theorem s130_39 {d : Nat} {st : List Value} {σ : am_I} {ρ : am_R} {g : am_J} {τ : am_T} {Q : am_Q} {x1 x2 x3 : Value} {v : Nat} : AW d 130 39 [.ref v, x1, x2, x3] (st) σ ρ g τ Q = AW d 130 40 [.ref v, x1, x2, x3] (.ref v :: st) σ ρ g τ Q := aw_lc m130 d130_39 rfl rfl rfl
theorem d130_40 : decode cX11_gets 40 = .ok (.getfield 10, 3) := by decide +kernel
theorem s130_40 {d : Nat} {st : List Value} {σ : am_I} {ρ : am_R} {g : am_J} {τ : am_T} {Q : am_Q} {x0 x1 x2 x3 : Value} {a : Nat} (ht : τ.1 a = 11) : AW d 130 40 [x0, x1, x2, x3] (.ref a :: st) σ ρ g τ Q = AW d 130 43 [x0, x1, x2, x3] (va_rf (ρ a 0) :: st) σ ρ g τ Q := aw_gr m130 d130_40 rfl rfl rfl ht
theorem d130_43 : decode cX11_gets 43 = .ok (.getfield 209, 3) := by decide +kernel
theorem s130_43 {d : Nat} {st : List Value} {σ : am_I} {ρ : am_R} {g : am_J} {τ : am_T} {Q : am_Q} {x0 x1 x2 x3 : Value} {a : Nat} (ht : τ.1 a = 3) : AW d 130 43 [x0, x1, x2, x3] (.ref a :: st) σ ρ g τ Q = AW d 130 46 [x0, x1, x2, x3] (va_rf (ρ a 7) :: st) σ ρ g τ Q := aw_gr m130 d130_43 rfl rfl rfl ht
theorem d130_46 : decode cX11_gets 46 = .ok (.iload_n 1, 1) := by decide +kernel
theorem s130_46 {d : Nat} {st : List Value} {σ : am_I} {ρ : am_R} {g : am_J} {τ : am_T} {Q : am_Q} {x0 x2 x3 : Value} {v : Int32} : AW d 130 46 [x0, .int v, x2, x3] (st) σ ρ g τ Q = AW d 130 47 [x0, .int v, x2, x3] (.int v :: st) σ ρ g τ Q := aw_lc m130 d130_46 rfl rfl rfl
theorem d130_47 : decode cX11_gets 47 = .ok (.aaload, 1) := by decide +kernel
theorem s130_47 {d : Nat} {st : List Value} {σ : am_I} {ρ : am_R} {g : am_J} {τ : am_T} {Q : am_Q} {x0 x1 x2 x3 : Value} {a : Nat} {j : Int32} (ht : 18 ≤ τ.1 a ∧ τ.1 a ≤ 22) (hj : am_inb j (τ.2.1 a) = true) : AW d 130 47 [x0, x1, x2, x3] (.int j :: .ref a :: st) σ ρ g τ Q = AW d 130 48 [x0, x1, x2, x3] (va_rf (ρ a j.toNatClampNeg) :: st) σ ρ g τ Q := aw_aal m130 d130_47 rfl ht hj
theorem d130_48 : decode cX11_gets 48 = .ok (.getfield 225, 3) := by decide +kernel
theorem s130_48 {d : Nat} {st : List Value} {σ : am_I} {ρ : am_R} {g : am_J} {τ : am_T} {Q : am_Q} {x0 x1 x2 x3 : Value} {a : Nat} (ht : τ.1 a = 1) : AW d 130 48 [x0, x1, x2, x3] (.ref a :: st) σ ρ g τ Q = AW d 130 51 [x0, x1, x2, x3] (.int (σ a 2) :: st) σ ρ g τ Q := aw_gi m130 d130_48 rfl rfl rfl ht
theorem d130_51 : decode cX11_gets 51 = .ok (.iload_n 2, 1) := by decide +kernel
theorem s130_51 {d : Nat} {st : List Value} {σ : am_I} {ρ : am_R} {g : am_J} {τ : am_T} {Q : am_Q} {x0 x1 x3 : Value} {v : Int32} : AW d 130 51 [x0, x1, .int v, x3] (st) σ ρ g τ Q = AW d 130 52 [x0, x1, .int v, x3] (.int v :: st) σ ρ g τ Q := aw_lc m130 d130_51 rfl rfl rfl
theorem d130_52 : decode cX11_gets 52 = .ok (.invokevirtual 85, 3) := by decide +kernel
theorem s130_52 {d : Nat} {st : List Value} {σ : am_I} {ρ : am_R} {g : am_J} {τ : am_T} {Q : am_Q} {x0 x1 x2 x3 : Value} {p0 : Nat} {p1 : Nat} {p2 : Int32} {p3 : Int32} (ht : τ.1 p0 = 8) (hs : st.length ≤ 4) : AW (d + 1) 130 52 [x0, x1, x2, x3] (.int p3 :: .int p2 :: .ref p1 :: .ref p0 :: st) σ ρ g τ Q = AW d 64 0 [.ref p0, .ref p1, .int p2, .int p3, am_jk, am_jk, am_jk] [] σ ρ g τ (fun r9 σ ρ g τ => AW (d + 1) 130 55 [x0, x1, x2, x3] (r9.toList ++ st) σ ρ g τ Q) := aw_cv m130 d130_52 rfl m64 rfl rfl (by decide) en64 ok64 rfl ht hs
theorem d130_55 : decode cX11_gets 55 = .ok (.aload_n 0, 1) := by decide +kernel
theorem s130_55 {d : Nat} {st : List Value} {σ : am_I} {ρ : am_R} {g : am_J} {τ : am_T} {Q : am_Q} {x1 x2 x3 : Value} {v : Nat} : AW d 130 55 [.ref v, x1, x2, x3] (st) σ ρ g τ Q = AW d 130 56 [.ref v, x1, x2, x3] (.ref v :: st) σ ρ g τ Q := aw_lc m130 d130_55 rfl rfl rfl
theorem d130_56 : decode cX11_gets 56 = .ok (.getfield 33, 3) := by decide +kernel
theorem s130_56 {d : Nat} {st : List Value} {σ : am_I} {ρ : am_R} {g : am_J} {τ : am_T} {Q : am_Q} {x0 x1 x2 x3 : Value} {a : Nat} (ht : τ.1 a = 11) : AW d 130 56 [x0, x1, x2, x3] (.ref a :: st) σ ρ g τ Q = AW d 130 59 [x0, x1, x2, x3] (va_rf (ρ a 4) :: st) σ ρ g τ Q := aw_gr m130 d130_56 rfl rfl rfl ht
theorem d130_59 : decode cX11_gets 59 = .ok (.iload_n 3, 1) := by decide +kernel
theorem s130_59 {d : Nat} {st : List Value} {σ : am_I} {ρ : am_R} {g : am_J} {τ : am_T} {Q : am_Q} {x0 x1 x2 : Value} {v : Int32} : AW d 130 59 [x0, x1, x2, .int v] (st) σ ρ g τ Q = AW d 130 60 [x0, x1, x2, .int v] (.int v :: st) σ ρ g τ Q := aw_lc m130 d130_59 rfl rfl rfl
theorem d130_60 : decode cX11_gets 60 = .ok (.invokevirtual 96, 3) := by decide +kernel
theorem s130_60 {d : Nat} {st : List Value} {σ : am_I} {ρ : am_R} {g : am_J} {τ : am_T} {Q : am_Q} {x0 x1 x2 x3 : Value} {p0 : Nat} {p1 : Int32} (ht : τ.1 p0 = 8) (hs : st.length ≤ 4) : AW (d + 1) 130 60 [x0, x1, x2, x3] (.int p1 :: .ref p0 :: st) σ ρ g τ Q = AW d 65 0 [.ref p0, .int p1, am_jk, am_jk, am_jk] [] σ ρ g τ (fun r9 σ ρ g τ => AW (d + 1) 130 63 [x0, x1, x2, x3] (r9.toList ++ st) σ ρ g τ Q) := aw_cv m130 d130_60 rfl m65 rfl rfl (by decide) en65 ok65 rfl ht hs
theorem d130_63 : decode cX11_gets 63 = .ok (.aload_n 0, 1) := by decide +kernel
theorem s130_63 {d : Nat} {st : List Value} {σ : am_I} {ρ : am_R} {g : am_J} {τ : am_T} {Q : am_Q} {x1 x2 x3 : Value} {v : Nat} : AW d 130 63 [.ref v, x1, x2, x3] (st) σ ρ g τ Q = AW d 130 64 [.ref v, x1, x2, x3] (.ref v :: st) σ ρ g τ Q := aw_lc m130 d130_63 rfl rfl rfl
theorem d130_64 : decode cX11_gets 64 = .ok (.getfield 33, 3) := by decide +kernel
theorem s130_64 {d : Nat} {st : List Value} {σ : am_I} {ρ : am_R} {g : am_J} {τ : am_T} {Q : am_Q} {x0 x1 x2 x3 : Value} {a : Nat} (ht : τ.1 a = 11) : AW d 130 64 [x0, x1, x2, x3] (.ref a :: st) σ ρ g τ Q = AW d 130 67 [x0, x1, x2, x3] (va_rf (ρ a 4) :: st) σ ρ g τ Q := aw_gr m130 d130_64 rfl rfl rfl ht
theorem d130_67 : decode cX11_gets 67 = .ok (.getfield 309, 3) := by decide +kernel
theorem s130_67 {d : Nat} {st : List Value} {σ : am_I} {ρ : am_R} {g : am_J} {τ : am_T} {Q : am_Q} {x0 x1 x2 x3 : Value} {a : Nat} (ht : τ.1 a = 8) : AW d 130 67 [x0, x1, x2, x3] (.ref a :: st) σ ρ g τ Q = AW d 130 70 [x0, x1, x2, x3] (va_rf (ρ a 3) :: st) σ ρ g τ Q := aw_gr m130 d130_67 rfl rfl rfl ht
theorem d130_70 : decode cX11_gets 70 = .ok (.iload_n 1, 1) := by decide +kernel
theorem s130_70 {d : Nat} {st : List Value} {σ : am_I} {ρ : am_R} {g : am_J} {τ : am_T} {Q : am_Q} {x0 x2 x3 : Value} {v : Int32} : AW d 130 70 [x0, .int v, x2, x3] (st) σ ρ g τ Q = AW d 130 71 [x0, .int v, x2, x3] (.int v :: st) σ ρ g τ Q := aw_lc m130 d130_70 rfl rfl rfl
theorem d130_71 : decode cX11_gets 71 = .ok (.iaload, 1) := by decide +kernel
theorem s130_71 {d : Nat} {st : List Value} {σ : am_I} {ρ : am_R} {g : am_J} {τ : am_T} {Q : am_Q} {x0 x1 x2 x3 : Value} {a : Nat} {j : Int32} (ht : τ.1 a = 15) (hj : am_inb j (τ.2.1 a) = true) : AW d 130 71 [x0, x1, x2, x3] (.int j :: .ref a :: st) σ ρ g τ Q = AW d 130 72 [x0, x1, x2, x3] (.int (σ a j.toNatClampNeg) :: st) σ ρ g τ Q := aw_ial m130 d130_71 rfl ht hj
theorem d130_72 : decode cX11_gets 72 = .ok (.ireturn, 1) := by decide +kernel
theorem s130_72 {d : Nat} {σ : am_I} {ρ : am_R} {g : am_J} {τ : am_T} {Q : am_Q} {x0 x1 x2 x3 : Value} {v : Int32} : AW d 130 72 [x0, x1, x2, x3] ([.int v]) σ ρ g τ Q = Q (some (.int v)) σ ρ g τ := aw_ri m130 d130_72 rfl
