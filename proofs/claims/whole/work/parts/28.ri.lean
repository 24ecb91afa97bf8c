/-! step rows: methods 223 to 268 -/
theorem d223_0 : decode cX12_lag 0 = .ok (.iload_n 1, 1) := by decide +kernel
theorem s223_0 {d : Nat} {st : List Value} {σ : am_I} {ρ : am_R} {g : am_J} {τ : am_T} {Q : am_Q} {x0 x2 x3 : Value} {v : Int32} : AW d 223 0 [x0, .int v, x2, x3] (st) σ ρ g τ Q = AW d 223 1 [x0, .int v, x2, x3] (.int v :: st) σ ρ g τ Q := aw_lc m223 d223_0 rfl rfl rfl
theorem d223_1 : decode cX12_lag 1 = .ok (.iconst 0, 1) := by decide +kernel
theorem s223_1 {d : Nat} {st : List Value} {σ : am_I} {ρ : am_R} {g : am_J} {τ : am_T} {Q : am_Q} {x0 x1 x2 x3 : Value} : AW d 223 1 [x0, x1, x2, x3] (st) σ ρ g τ Q = AW d 223 2 [x0, x1, x2, x3] (.int 0 :: st) σ ρ g τ Q := aw_lc m223 d223_1 rfl rfl rfl
theorem d223_2 : decode cX12_lag 2 = .ok (.iconst 4, 1) := by decide +kernel
theorem s223_2 {d : Nat} {st : List Value} {σ : am_I} {ρ : am_R} {g : am_J} {τ : am_T} {Q : am_Q} {x0 x1 x2 x3 : Value} : AW d 223 2 [x0, x1, x2, x3] (st) σ ρ g τ Q = AW d 223 3 [x0, x1, x2, x3] (.int 4 :: st) σ ρ g τ Q := aw_lc m223 d223_2 rfl rfl rfl
theorem d223_3 : decode cX12_lag 3 = .ok (.invokestatic 194, 3) := by decide +kernel
theorem s223_3 {d : Nat} {st : List Value} {σ : am_I} {ρ : am_R} {g : am_J} {τ : am_T} {Q : am_Q} {x0 x1 x2 x3 : Value} {p0 : Int32} {p1 : Int32} {p2 : Int32} (hs : st.length ≤ 4) : AW (d + 1) 223 3 [x0, x1, x2, x3] (.int p2 :: .int p1 :: .int p0 :: st) σ ρ g τ Q = AW d 165 0 [.int p0, .int p1, .int p2] [] σ ρ g τ (fun r9 σ ρ g τ => AW (d + 1) 223 6 [x0, x1, x2, x3] (r9.toList ++ st) σ ρ g τ Q) := aw_cs m223 d223_3 rfl (by simp only [List.length_cons]; omega) rfl rfl en165 ok165 rfl hs
theorem d223_6 : decode cX12_lag 6 = .ok (.ifCond .eq 13, 3) := by decide +kernel
theorem s223_6 {d : Nat} {st : List Value} {σ : am_I} {ρ : am_R} {g : am_J} {τ : am_T} {Q : am_Q} {x0 x1 x2 x3 : Value} {v : Int32} : AW d 223 6 [x0, x1, x2, x3] (.int v :: st) σ ρ g τ Q = if v = 0 then AW d 223 19 [x0, x1, x2, x3] (st) σ ρ g τ Q else AW d 223 9 [x0, x1, x2, x3] (st) σ ρ g τ Q := aw_br m223 d223_6 rfl rfl rfl
theorem d223_9 : decode cX12_lag 9 = .ok (.iload_n 2, 1) := by decide +kernel
theorem s223_9 {d : Nat} {st : List Value} {σ : am_I} {ρ : am_R} {g : am_J} {τ : am_T} {Q : am_Q} {x0 x1 x3 : Value} {v : Int32} : AW d 223 9 [x0, x1, .int v, x3] (st) σ ρ g τ Q = AW d 223 10 [x0, x1, .int v, x3] (.int v :: st) σ ρ g τ Q := aw_lc m223 d223_9 rfl rfl rfl
theorem d223_10 : decode cX12_lag 10 = .ok (.iconst 0, 1) := by decide +kernel
theorem s223_10 {d : Nat} {st : List Value} {σ : am_I} {ρ : am_R} {g : am_J} {τ : am_T} {Q : am_Q} {x0 x1 x2 x3 : Value} : AW d 223 10 [x0, x1, x2, x3] (st) σ ρ g τ Q = AW d 223 11 [x0, x1, x2, x3] (.int 0 :: st) σ ρ g τ Q := aw_lc m223 d223_10 rfl rfl rfl
theorem d223_11 : decode cX12_lag 11 = .ok (.bipush 6, 2) := by decide +kernel
theorem s223_11 {d : Nat} {st : List Value} {σ : am_I} {ρ : am_R} {g : am_J} {τ : am_T} {Q : am_Q} {x0 x1 x2 x3 : Value} : AW d 223 11 [x0, x1, x2, x3] (st) σ ρ g τ Q = AW d 223 13 [x0, x1, x2, x3] (.int 6 :: st) σ ρ g τ Q := aw_lc m223 d223_11 rfl rfl rfl
theorem d223_13 : decode cX12_lag 13 = .ok (.invokestatic 194, 3) := by decide +kernel
theorem s223_13 {d : Nat} {st : List Value} {σ : am_I} {ρ : am_R} {g : am_J} {τ : am_T} {Q : am_Q} {x0 x1 x2 x3 : Value} {p0 : Int32} {p1 : Int32} {p2 : Int32} (hs : st.length ≤ 4) : AW (d + 1) 223 13 [x0, x1, x2, x3] (.int p2 :: .int p1 :: .int p0 :: st) σ ρ g τ Q = AW d 165 0 [.int p0, .int p1, .int p2] [] σ ρ g τ (fun r9 σ ρ g τ => AW (d + 1) 223 16 [x0, x1, x2, x3] (r9.toList ++ st) σ ρ g τ Q) := aw_cs m223 d223_13 rfl (by simp only [List.length_cons]; omega) rfl rfl en165 ok165 rfl hs
theorem d223_16 : decode cX12_lag 16 = .ok (.ifCond .ne 5, 3) := by decide +kernel
theorem s223_16 {d : Nat} {st : List Value} {σ : am_I} {ρ : am_R} {g : am_J} {τ : am_T} {Q : am_Q} {x0 x1 x2 x3 : Value} {v : Int32} : AW d 223 16 [x0, x1, x2, x3] (.int v :: st) σ ρ g τ Q = if ¬ v = 0 then AW d 223 21 [x0, x1, x2, x3] (st) σ ρ g τ Q else AW d 223 19 [x0, x1, x2, x3] (st) σ ρ g τ Q := aw_br m223 d223_16 rfl rfl rfl
theorem d223_19 : decode cX12_lag 19 = .ok (.iconst (-1), 1) := by decide +kernel
theorem s223_19 {d : Nat} {st : List Value} {σ : am_I} {ρ : am_R} {g : am_J} {τ : am_T} {Q : am_Q} {x0 x1 x2 x3 : Value} : AW d 223 19 [x0, x1, x2, x3] (st) σ ρ g τ Q = AW d 223 20 [x0, x1, x2, x3] (.int (-1) :: st) σ ρ g τ Q := aw_lc m223 d223_19 rfl rfl rfl
theorem d223_20 : decode cX12_lag 20 = .ok (.ireturn, 1) := by decide +kernel
theorem s223_20 {d : Nat} {σ : am_I} {ρ : am_R} {g : am_J} {τ : am_T} {Q : am_Q} {x0 x1 x2 x3 : Value} {v : Int32} : AW d 223 20 [x0, x1, x2, x3] ([.int v]) σ ρ g τ Q = Q (some (.int v)) σ ρ g τ := aw_ri m223 d223_20 rfl
theorem d223_21 : decode cX12_lag 21 = .ok (.aload_n 0, 1) := by decide +kernel
theorem s223_21 {d : Nat} {st : List Value} {σ : am_I} {ρ : am_R} {g : am_J} {τ : am_T} {Q : am_Q} {x1 x2 x3 : Value} {v : Nat} : AW d 223 21 [.ref v, x1, x2, x3] (st) σ ρ g τ Q = AW d 223 22 [.ref v, x1, x2, x3] (.ref v :: st) σ ρ g τ Q := aw_lc m223 d223_21 rfl rfl rfl
theorem d223_22 : decode cX12_lag 22 = .ok (.getfield 19, 3) := by decide +kernel
theorem s223_22 {d : Nat} {st : List Value} {σ : am_I} {ρ : am_R} {g : am_J} {τ : am_T} {Q : am_Q} {x0 x1 x2 x3 : Value} {a : Nat} (ht : τ.1 a = 12) : AW d 223 22 [x0, x1, x2, x3] (.ref a :: st) σ ρ g τ Q = AW d 223 25 [x0, x1, x2, x3] (va_rf (ρ a 3) :: st) σ ρ g τ Q := aw_gr m223 d223_22 rfl rfl rfl ht
theorem d223_25 : decode cX12_lag 25 = .ok (.iload_n 1, 1) := by decide +kernel
theorem s223_25 {d : Nat} {st : List Value} {σ : am_I} {ρ : am_R} {g : am_J} {τ : am_T} {Q : am_Q} {x0 x2 x3 : Value} {v : Int32} : AW d 223 25 [x0, .int v, x2, x3] (st) σ ρ g τ Q = AW d 223 26 [x0, .int v, x2, x3] (.int v :: st) σ ρ g τ Q := aw_lc m223 d223_25 rfl rfl rfl
theorem d223_26 : decode cX12_lag 26 = .ok (.iaload, 1) := by decide +kernel
theorem s223_26 {d : Nat} {st : List Value} {σ : am_I} {ρ : am_R} {g : am_J} {τ : am_T} {Q : am_Q} {x0 x1 x2 x3 : Value} {a : Nat} {j : Int32} (ht : τ.1 a = 15) (hj : am_inb j (τ.2.1 a) = true) : AW d 223 26 [x0, x1, x2, x3] (.int j :: .ref a :: st) σ ρ g τ Q = AW d 223 27 [x0, x1, x2, x3] (.int (σ a j.toNatClampNeg) :: st) σ ρ g τ Q := aw_ial m223 d223_26 rfl ht hj
theorem d223_27 : decode cX12_lag 27 = .ok (.istore_n 3, 1) := by decide +kernel
theorem s223_27 {d : Nat} {st : List Value} {σ : am_I} {ρ : am_R} {g : am_J} {τ : am_T} {Q : am_Q} {x0 x1 x3 : Value} {v : Int32} {u : Int32} : AW d 223 27 [x0, x1, .int u, x3] (.int v :: st) σ ρ g τ Q = AW d 223 28 [x0, x1, .int u, .int v] (st) σ ρ g τ Q := aw_lc m223 d223_27 rfl rfl rfl
theorem d223_28 : decode cX12_lag 28 = .ok (.aload_n 0, 1) := by decide +kernel
theorem s223_28 {d : Nat} {st : List Value} {σ : am_I} {ρ : am_R} {g : am_J} {τ : am_T} {Q : am_Q} {x1 x2 x3 : Value} {v : Nat} : AW d 223 28 [.ref v, x1, x2, x3] (st) σ ρ g τ Q = AW d 223 29 [.ref v, x1, x2, x3] (.ref v :: st) σ ρ g τ Q := aw_lc m223 d223_28 rfl rfl rfl
theorem d223_29 : decode cX12_lag 29 = .ok (.getfield 19, 3) := by decide +kernel
theorem s223_29 {d : Nat} {st : List Value} {σ : am_I} {ρ : am_R} {g : am_J} {τ : am_T} {Q : am_Q} {x0 x1 x2 x3 : Value} {a : Nat} (ht : τ.1 a = 12) : AW d 223 29 [x0, x1, x2, x3] (.ref a :: st) σ ρ g τ Q = AW d 223 32 [x0, x1, x2, x3] (va_rf (ρ a 3) :: st) σ ρ g τ Q := aw_gr m223 d223_29 rfl rfl rfl ht
theorem d223_32 : decode cX12_lag 32 = .ok (.iload_n 1, 1) := by decide +kernel
theorem s223_32 {d : Nat} {st : List Value} {σ : am_I} {ρ : am_R} {g : am_J} {τ : am_T} {Q : am_Q} {x0 x2 x3 : Value} {v : Int32} : AW d 223 32 [x0, .int v, x2, x3] (st) σ ρ g τ Q = AW d 223 33 [x0, .int v, x2, x3] (.int v :: st) σ ρ g τ Q := aw_lc m223 d223_32 rfl rfl rfl
theorem d223_33 : decode cX12_lag 33 = .ok (.iload_n 2, 1) := by decide +kernel
theorem s223_33 {d : Nat} {st : List Value} {σ : am_I} {ρ : am_R} {g : am_J} {τ : am_T} {Q : am_Q} {x0 x1 x3 : Value} {v : Int32} : AW d 223 33 [x0, x1, .int v, x3] (st) σ ρ g τ Q = AW d 223 34 [x0, x1, .int v, x3] (.int v :: st) σ ρ g τ Q := aw_lc m223 d223_33 rfl rfl rfl
theorem d223_34 : decode cX12_lag 34 = .ok (.iastore, 1) := by decide +kernel
theorem s223_34 {d : Nat} {st : List Value} {σ : am_I} {ρ : am_R} {g : am_J} {τ : am_T} {Q : am_Q} {x0 x1 x2 x3 : Value} {a : Nat} {j v : Int32} (ht : τ.1 a = 15) (ha : a < am_BG) (hj : am_inb j (τ.2.1 a) = true) : AW d 223 34 [x0, x1, x2, x3] (.int v :: .int j :: .ref a :: st) σ ρ g τ Q = AW d 223 35 [x0, x1, x2, x3] (st) (am_u σ a j.toNatClampNeg v) ρ g τ Q := aw_ias m223 d223_34 rfl ht ha hj
theorem d223_35 : decode cX12_lag 35 = .ok (.iload_n 3, 1) := by decide +kernel
theorem s223_35 {d : Nat} {st : List Value} {σ : am_I} {ρ : am_R} {g : am_J} {τ : am_T} {Q : am_Q} {x0 x1 x2 : Value} {v : Int32} : AW d 223 35 [x0, x1, x2, .int v] (st) σ ρ g τ Q = AW d 223 36 [x0, x1, x2, .int v] (.int v :: st) σ ρ g τ Q := aw_lc m223 d223_35 rfl rfl rfl
theorem d223_36 : decode cX12_lag 36 = .ok (.ireturn, 1) := by decide +kernel
theorem s223_36 {d : Nat} {σ : am_I} {ρ : am_R} {g : am_J} {τ : am_T} {Q : am_Q} {x0 x1 x2 x3 : Value} {v : Int32} : AW d 223 36 [x0, x1, x2, x3] ([.int v]) σ ρ g τ Q = Q (some (.int v)) σ ρ g τ := aw_ri m223 d223_36 rfl
theorem d224_0 : decode cX12_knows 0 = .ok (.iload_n 1, 1) := by decide +kernel
theorem s224_0 {d : Nat} {st : List Value} {σ : am_I} {ρ : am_R} {g : am_J} {τ : am_T} {Q : am_Q} {x0 x2 : Value} {v : Int32} : AW d 224 0 [x0, .int v, x2] (st) σ ρ g τ Q = AW d 224 1 [x0, .int v, x2] (.int v :: st) σ ρ g τ Q := aw_lc m224 d224_0 rfl rfl rfl
theorem d224_1 : decode cX12_knows 1 = .ok (.iconst 0, 1) := by decide +kernel
theorem s224_1 {d : Nat} {st : List Value} {σ : am_I} {ρ : am_R} {g : am_J} {τ : am_T} {Q : am_Q} {x0 x1 x2 : Value} : AW d 224 1 [x0, x1, x2] (st) σ ρ g τ Q = AW d 224 2 [x0, x1, x2] (.int 0 :: st) σ ρ g τ Q := aw_lc m224 d224_1 rfl rfl rfl
theorem d224_2 : decode cX12_knows 2 = .ok (.iconst 4, 1) := by decide +kernel
theorem s224_2 {d : Nat} {st : List Value} {σ : am_I} {ρ : am_R} {g : am_J} {τ : am_T} {Q : am_Q} {x0 x1 x2 : Value} : AW d 224 2 [x0, x1, x2] (st) σ ρ g τ Q = AW d 224 3 [x0, x1, x2] (.int 4 :: st) σ ρ g τ Q := aw_lc m224 d224_2 rfl rfl rfl
theorem d224_3 : decode cX12_knows 3 = .ok (.invokestatic 194, 3) := by decide +kernel
theorem s224_3 {d : Nat} {st : List Value} {σ : am_I} {ρ : am_R} {g : am_J} {τ : am_T} {Q : am_Q} {x0 x1 x2 : Value} {p0 : Int32} {p1 : Int32} {p2 : Int32} (hs : st.length ≤ 4) : AW (d + 1) 224 3 [x0, x1, x2] (.int p2 :: .int p1 :: .int p0 :: st) σ ρ g τ Q = AW d 165 0 [.int p0, .int p1, .int p2] [] σ ρ g τ (fun r9 σ ρ g τ => AW (d + 1) 224 6 [x0, x1, x2] (r9.toList ++ st) σ ρ g τ Q) := aw_cs m224 d224_3 rfl (by simp only [List.length_cons]; omega) rfl rfl en165 ok165 rfl hs
theorem d224_6 : decode cX12_knows 6 = .ok (.ifCond .eq 12, 3) := by decide +kernel
theorem s224_6 {d : Nat} {st : List Value} {σ : am_I} {ρ : am_R} {g : am_J} {τ : am_T} {Q : am_Q} {x0 x1 x2 : Value} {v : Int32} : AW d 224 6 [x0, x1, x2] (.int v :: st) σ ρ g τ Q = if v = 0 then AW d 224 18 [x0, x1, x2] (st) σ ρ g τ Q else AW d 224 9 [x0, x1, x2] (st) σ ρ g τ Q := aw_br m224 d224_6 rfl rfl rfl
theorem d224_9 : decode cX12_knows 9 = .ok (.aload_n 0, 1) := by decide +kernel
theorem s224_9 {d : Nat} {st : List Value} {σ : am_I} {ρ : am_R} {g : am_J} {τ : am_T} {Q : am_Q} {x1 x2 : Value} {v : Nat} : AW d 224 9 [.ref v, x1, x2] (st) σ ρ g τ Q = AW d 224 10 [.ref v, x1, x2] (.ref v :: st) σ ρ g τ Q := aw_lc m224 d224_9 rfl rfl rfl
theorem d224_10 : decode cX12_knows 10 = .ok (.iconst 2, 1) := by decide +kernel
theorem s224_10 {d : Nat} {st : List Value} {σ : am_I} {ρ : am_R} {g : am_J} {τ : am_T} {Q : am_Q} {x0 x1 x2 : Value} : AW d 224 10 [x0, x1, x2] (st) σ ρ g τ Q = AW d 224 11 [x0, x1, x2] (.int 2 :: st) σ ρ g τ Q := aw_lc m224 d224_10 rfl rfl rfl
theorem d224_11 : decode cX12_knows 11 = .ok (.iload_n 2, 1) := by decide +kernel
theorem s224_11 {d : Nat} {st : List Value} {σ : am_I} {ρ : am_R} {g : am_J} {τ : am_T} {Q : am_Q} {x0 x1 : Value} {v : Int32} : AW d 224 11 [x0, x1, .int v] (st) σ ρ g τ Q = AW d 224 12 [x0, x1, .int v] (.int v :: st) σ ρ g τ Q := aw_lc m224 d224_11 rfl rfl rfl
theorem d224_12 : decode cX12_knows 12 = .ok (.invokevirtual 210, 3) := by decide +kernel
theorem s224_12 {d : Nat} {st : List Value} {σ : am_I} {ρ : am_R} {g : am_J} {τ : am_T} {Q : am_Q} {x0 x1 x2 : Value} {p0 : Nat} {p1 : Int32} {p2 : Int32} (ht : τ.1 p0 = 12) (hs : st.length ≤ 4) : AW (d + 1) 224 12 [x0, x1, x2] (.int p2 :: .int p1 :: .ref p0 :: st) σ ρ g τ Q = AW d 167 0 [.ref p0, .int p1, .int p2] [] σ ρ g τ (fun r9 σ ρ g τ => AW (d + 1) 224 15 [x0, x1, x2] (r9.toList ++ st) σ ρ g τ Q) := aw_cv m224 d224_12 rfl m167 rfl rfl (by decide) en167 ok167 rfl ht hs
theorem d224_15 : decode cX12_knows 15 = .ok (.ifCond .ne 5, 3) := by decide +kernel
theorem s224_15 {d : Nat} {st : List Value} {σ : am_I} {ρ : am_R} {g : am_J} {τ : am_T} {Q : am_Q} {x0 x1 x2 : Value} {v : Int32} : AW d 224 15 [x0, x1, x2] (.int v :: st) σ ρ g τ Q = if ¬ v = 0 then AW d 224 20 [x0, x1, x2] (st) σ ρ g τ Q else AW d 224 18 [x0, x1, x2] (st) σ ρ g τ Q := aw_br m224 d224_15 rfl rfl rfl
theorem d224_18 : decode cX12_knows 18 = .ok (.iconst (-1), 1) := by decide +kernel
theorem s224_18 {d : Nat} {st : List Value} {σ : am_I} {ρ : am_R} {g : am_J} {τ : am_T} {Q : am_Q} {x0 x1 x2 : Value} : AW d 224 18 [x0, x1, x2] (st) σ ρ g τ Q = AW d 224 19 [x0, x1, x2] (.int (-1) :: st) σ ρ g τ Q := aw_lc m224 d224_18 rfl rfl rfl
theorem d224_19 : decode cX12_knows 19 = .ok (.ireturn, 1) := by decide +kernel
theorem s224_19 {d : Nat} {σ : am_I} {ρ : am_R} {g : am_J} {τ : am_T} {Q : am_Q} {x0 x1 x2 : Value} {v : Int32} : AW d 224 19 [x0, x1, x2] ([.int v]) σ ρ g τ Q = Q (some (.int v)) σ ρ g τ := aw_ri m224 d224_19 rfl
theorem d224_20 : decode cX12_knows 20 = .ok (.aload_n 0, 1) := by decide +kernel
theorem s224_20 {d : Nat} {st : List Value} {σ : am_I} {ρ : am_R} {g : am_J} {τ : am_T} {Q : am_Q} {x1 x2 : Value} {v : Nat} : AW d 224 20 [.ref v, x1, x2] (st) σ ρ g τ Q = AW d 224 21 [.ref v, x1, x2] (.ref v :: st) σ ρ g τ Q := aw_lc m224 d224_20 rfl rfl rfl
theorem d224_21 : decode cX12_knows 21 = .ok (.getfield 37, 3) := by decide +kernel
theorem s224_21 {d : Nat} {st : List Value} {σ : am_I} {ρ : am_R} {g : am_J} {τ : am_T} {Q : am_Q} {x0 x1 x2 : Value} {a : Nat} (ht : τ.1 a = 12) : AW d 224 21 [x0, x1, x2] (.ref a :: st) σ ρ g τ Q = AW d 224 24 [x0, x1, x2] (va_rf (ρ a 9) :: st) σ ρ g τ Q := aw_gr m224 d224_21 rfl rfl rfl ht
theorem d224_24 : decode cX12_knows 24 = .ok (.iload_n 2, 1) := by decide +kernel
theorem s224_24 {d : Nat} {st : List Value} {σ : am_I} {ρ : am_R} {g : am_J} {τ : am_T} {Q : am_Q} {x0 x1 : Value} {v : Int32} : AW d 224 24 [x0, x1, .int v] (st) σ ρ g τ Q = AW d 224 25 [x0, x1, .int v] (.int v :: st) σ ρ g τ Q := aw_lc m224 d224_24 rfl rfl rfl
theorem d224_25 : decode cX12_knows 25 = .ok (.iaload, 1) := by decide +kernel
theorem s224_25 {d : Nat} {st : List Value} {σ : am_I} {ρ : am_R} {g : am_J} {τ : am_T} {Q : am_Q} {x0 x1 x2 : Value} {a : Nat} {j : Int32} (ht : τ.1 a = 15) (hj : am_inb j (τ.2.1 a) = true) : AW d 224 25 [x0, x1, x2] (.int j :: .ref a :: st) σ ρ g τ Q = AW d 224 26 [x0, x1, x2] (.int (σ a j.toNatClampNeg) :: st) σ ρ g τ Q := aw_ial m224 d224_25 rfl ht hj
theorem d224_26 : decode cX12_knows 26 = .ok (.ifCond .ne 22, 3) := by decide +kernel
theorem s224_26 {d : Nat} {st : List Value} {σ : am_I} {ρ : am_R} {g : am_J} {τ : am_T} {Q : am_Q} {x0 x1 x2 : Value} {v : Int32} : AW d 224 26 [x0, x1, x2] (.int v :: st) σ ρ g τ Q = if ¬ v = 0 then AW d 224 48 [x0, x1, x2] (st) σ ρ g τ Q else AW d 224 29 [x0, x1, x2] (st) σ ρ g τ Q := aw_br m224 d224_26 rfl rfl rfl
theorem d224_29 : decode cX12_knows 29 = .ok (.aload_n 0, 1) := by decide +kernel
theorem s224_29 {d : Nat} {st : List Value} {σ : am_I} {ρ : am_R} {g : am_J} {τ : am_T} {Q : am_Q} {x1 x2 : Value} {v : Nat} : AW d 224 29 [.ref v, x1, x2] (st) σ ρ g τ Q = AW d 224 30 [.ref v, x1, x2] (.ref v :: st) σ ρ g τ Q := aw_lc m224 d224_29 rfl rfl rfl
theorem d224_30 : decode cX12_knows 30 = .ok (.getfield 64, 3) := by decide +kernel
theorem s224_30 {d : Nat} {st : List Value} {σ : am_I} {ρ : am_R} {g : am_J} {τ : am_T} {Q : am_Q} {x0 x1 x2 : Value} {a : Nat} (ht : τ.1 a = 12) : AW d 224 30 [x0, x1, x2] (.ref a :: st) σ ρ g τ Q = AW d 224 33 [x0, x1, x2] (va_rf (ρ a 18) :: st) σ ρ g τ Q := aw_gr m224 d224_30 rfl rfl rfl ht
theorem d224_33 : decode cX12_knows 33 = .ok (.bipush 7, 2) := by decide +kernel
theorem s224_33 {d : Nat} {st : List Value} {σ : am_I} {ρ : am_R} {g : am_J} {τ : am_T} {Q : am_Q} {x0 x1 x2 : Value} : AW d 224 33 [x0, x1, x2] (st) σ ρ g τ Q = AW d 224 35 [x0, x1, x2] (.int 7 :: st) σ ρ g τ Q := aw_lc m224 d224_33 rfl rfl rfl
theorem d224_35 : decode cX12_knows 35 = .ok (.iload_n 2, 1) := by decide +kernel
theorem s224_35 {d : Nat} {st : List Value} {σ : am_I} {ρ : am_R} {g : am_J} {τ : am_T} {Q : am_Q} {x0 x1 : Value} {v : Int32} : AW d 224 35 [x0, x1, .int v] (st) σ ρ g τ Q = AW d 224 36 [x0, x1, .int v] (.int v :: st) σ ρ g τ Q := aw_lc m224 d224_35 rfl rfl rfl
theorem d224_36 : decode cX12_knows 36 = .ok (.imul, 1) := by decide +kernel
theorem s224_36 {d : Nat} {st : List Value} {σ : am_I} {ρ : am_R} {g : am_J} {τ : am_T} {Q : am_Q} {x0 x1 x2 : Value} {v w : Int32} : AW d 224 36 [x0, x1, x2] (.int w :: .int v :: st) σ ρ g τ Q = AW d 224 37 [x0, x1, x2] (.int (v * w) :: st) σ ρ g τ Q := aw_lc m224 d224_36 rfl rfl rfl
theorem d224_37 : decode cX12_knows 37 = .ok (.aload_n 0, 1) := by decide +kernel
theorem s224_37 {d : Nat} {st : List Value} {σ : am_I} {ρ : am_R} {g : am_J} {τ : am_T} {Q : am_Q} {x1 x2 : Value} {v : Nat} : AW d 224 37 [.ref v, x1, x2] (st) σ ρ g τ Q = AW d 224 38 [.ref v, x1, x2] (.ref v :: st) σ ρ g τ Q := aw_lc m224 d224_37 rfl rfl rfl
theorem d224_38 : decode cX12_knows 38 = .ok (.getfield 19, 3) := by decide +kernel
theorem s224_38 {d : Nat} {st : List Value} {σ : am_I} {ρ : am_R} {g : am_J} {τ : am_T} {Q : am_Q} {x0 x1 x2 : Value} {a : Nat} (ht : τ.1 a = 12) : AW d 224 38 [x0, x1, x2] (.ref a :: st) σ ρ g τ Q = AW d 224 41 [x0, x1, x2] (va_rf (ρ a 3) :: st) σ ρ g τ Q := aw_gr m224 d224_38 rfl rfl rfl ht
theorem d224_41 : decode cX12_knows 41 = .ok (.iload_n 1, 1) := by decide +kernel
theorem s224_41 {d : Nat} {st : List Value} {σ : am_I} {ρ : am_R} {g : am_J} {τ : am_T} {Q : am_Q} {x0 x2 : Value} {v : Int32} : AW d 224 41 [x0, .int v, x2] (st) σ ρ g τ Q = AW d 224 42 [x0, .int v, x2] (.int v :: st) σ ρ g τ Q := aw_lc m224 d224_41 rfl rfl rfl
theorem d224_42 : decode cX12_knows 42 = .ok (.iaload, 1) := by decide +kernel
theorem s224_42 {d : Nat} {st : List Value} {σ : am_I} {ρ : am_R} {g : am_J} {τ : am_T} {Q : am_Q} {x0 x1 x2 : Value} {a : Nat} {j : Int32} (ht : τ.1 a = 15) (hj : am_inb j (τ.2.1 a) = true) : AW d 224 42 [x0, x1, x2] (.int j :: .ref a :: st) σ ρ g τ Q = AW d 224 43 [x0, x1, x2] (.int (σ a j.toNatClampNeg) :: st) σ ρ g τ Q := aw_ial m224 d224_42 rfl ht hj
theorem d224_43 : decode cX12_knows 43 = .ok (.iadd, 1) := by decide +kernel
theorem s224_43 {d : Nat} {st : List Value} {σ : am_I} {ρ : am_R} {g : am_J} {τ : am_T} {Q : am_Q} {x0 x1 x2 : Value} {v w : Int32} : AW d 224 43 [x0, x1, x2] (.int w :: .int v :: st) σ ρ g τ Q = AW d 224 44 [x0, x1, x2] (.int (v + w) :: st) σ ρ g τ Q := aw_lc m224 d224_43 rfl rfl rfl
theorem d224_44 : decode cX12_knows 44 = .ok (.iaload, 1) := by decide +kernel
theorem s224_44 {d : Nat} {st : List Value} {σ : am_I} {ρ : am_R} {g : am_J} {τ : am_T} {Q : am_Q} {x0 x1 x2 : Value} {a : Nat} {j : Int32} (ht : τ.1 a = 15) (hj : am_inb j (τ.2.1 a) = true) : AW d 224 44 [x0, x1, x2] (.int j :: .ref a :: st) σ ρ g τ Q = AW d 224 45 [x0, x1, x2] (.int (σ a j.toNatClampNeg) :: st) σ ρ g τ Q := aw_ial m224 d224_44 rfl ht hj
theorem d224_45 : decode cX12_knows 45 = .ok (.goto 5, 3) := by decide +kernel
theorem s224_45 {d : Nat} {st : List Value} {σ : am_I} {ρ : am_R} {g : am_J} {τ : am_T} {Q : am_Q} {x0 x1 x2 : Value} : AW d 224 45 [x0, x1, x2] (st) σ ρ g τ Q = AW d 224 50 [x0, x1, x2] (st) σ ρ g τ Q := aw_lc m224 d224_45 rfl rfl rfl
theorem d224_48 : decode cX12_knows 48 = .ok (.bipush (-4), 2) := by decide +kernel
theorem s224_48 {d : Nat} {st : List Value} {σ : am_I} {ρ : am_R} {g : am_J} {τ : am_T} {Q : am_Q} {x0 x1 x2 : Value} : AW d 224 48 [x0, x1, x2] (st) σ ρ g τ Q = AW d 224 50 [x0, x1, x2] (.int (-4) :: st) σ ρ g τ Q := aw_lc m224 d224_48 rfl rfl rfl
theorem d224_50 : decode cX12_knows 50 = .ok (.ireturn, 1) := by decide +kernel
theorem s224_50 {d : Nat} {σ : am_I} {ρ : am_R} {g : am_J} {τ : am_T} {Q : am_Q} {x0 x1 x2 : Value} {v : Int32} : AW d 224 50 [x0, x1, x2] ([.int v]) σ ρ g τ Q = Q (some (.int v)) σ ρ g τ := aw_ri m224 d224_50 rfl
theorem d225_0 : decode cX12_takesIt 0 = .ok (.iload_n 2, 1) := by decide +kernel
theorem s225_0 {d : Nat} {st : List Value} {σ : am_I} {ρ : am_R} {g : am_J} {τ : am_T} {Q : am_Q} {x0 x1 x3 : Value} {v : Int32} : AW d 225 0 [x0, x1, .int v, x3] (st) σ ρ g τ Q = AW d 225 1 [x0, x1, .int v, x3] (.int v :: st) σ ρ g τ Q := aw_lc m225 d225_0 rfl rfl rfl
theorem d225_1 : decode cX12_takesIt 1 = .ok (.bipush 100, 2) := by decide +kernel
theorem s225_1 {d : Nat} {st : List Value} {σ : am_I} {ρ : am_R} {g : am_J} {τ : am_T} {Q : am_Q} {x0 x1 x2 x3 : Value} : AW d 225 1 [x0, x1, x2, x3] (st) σ ρ g τ Q = AW d 225 3 [x0, x1, x2, x3] (.int 100 :: st) σ ρ g τ Q := aw_lc m225 d225_1 rfl rfl rfl
theorem d225_3 : decode cX12_takesIt 3 = .ok (.imul, 1) := by decide +kernel
theorem s225_3 {d : Nat} {st : List Value} {σ : am_I} {ρ : am_R} {g : am_J} {τ : am_T} {Q : am_Q} {x0 x1 x2 x3 : Value} {v w : Int32} : AW d 225 3 [x0, x1, x2, x3] (.int w :: .int v :: st) σ ρ g τ Q = AW d 225 4 [x0, x1, x2, x3] (.int (v * w) :: st) σ ρ g τ Q := aw_lc m225 d225_3 rfl rfl rfl
theorem d225_4 : decode cX12_takesIt 4 = .ok (.iload_n 3, 1) := by decide +kernel
theorem s225_4 {d : Nat} {st : List Value} {σ : am_I} {ρ : am_R} {g : am_J} {τ : am_T} {Q : am_Q} {x0 x1 x2 : Value} {v : Int32} : AW d 225 4 [x0, x1, x2, .int v] (st) σ ρ g τ Q = AW d 225 5 [x0, x1, x2, .int v] (.int v :: st) σ ρ g τ Q := aw_lc m225 d225_4 rfl rfl rfl
theorem d225_5 : decode cX12_takesIt 5 = .ok (.idiv, 1) := by decide +kernel
theorem s225_5 {d : Nat} {st : List Value} {σ : am_I} {ρ : am_R} {g : am_J} {τ : am_T} {Q : am_Q} {x0 x1 x2 x3 : Value} {v w : Int32} (h0 : ¬ w = 0) : AW d 225 5 [x0, x1, x2, x3] (.int w :: .int v :: st) σ ρ g τ Q = AW d 225 6 [x0, x1, x2, x3] (.int (v / w) :: st) σ ρ g τ Q := aw_div m225 d225_5 h0 rfl
theorem d225_6 : decode cX12_takesIt 6 = .ok (.aload_n 0, 1) := by decide +kernel
theorem s225_6 {d : Nat} {st : List Value} {σ : am_I} {ρ : am_R} {g : am_J} {τ : am_T} {Q : am_Q} {x1 x2 x3 : Value} {v : Nat} : AW d 225 6 [.ref v, x1, x2, x3] (st) σ ρ g τ Q = AW d 225 7 [.ref v, x1, x2, x3] (.ref v :: st) σ ρ g τ Q := aw_lc m225 d225_6 rfl rfl rfl
theorem d225_7 : decode cX12_takesIt 7 = .ok (.getfield 46, 3) := by decide +kernel
theorem s225_7 {d : Nat} {st : List Value} {σ : am_I} {ρ : am_R} {g : am_J} {τ : am_T} {Q : am_Q} {x0 x1 x2 x3 : Value} {a : Nat} (ht : τ.1 a = 12) : AW d 225 7 [x0, x1, x2, x3] (.ref a :: st) σ ρ g τ Q = AW d 225 10 [x0, x1, x2, x3] (va_rf (ρ a 12) :: st) σ ρ g τ Q := aw_gr m225 d225_7 rfl rfl rfl ht
theorem d225_10 : decode cX12_takesIt 10 = .ok (.iload_n 1, 1) := by decide +kernel
theorem s225_10 {d : Nat} {st : List Value} {σ : am_I} {ρ : am_R} {g : am_J} {τ : am_T} {Q : am_Q} {x0 x2 x3 : Value} {v : Int32} : AW d 225 10 [x0, .int v, x2, x3] (st) σ ρ g τ Q = AW d 225 11 [x0, .int v, x2, x3] (.int v :: st) σ ρ g τ Q := aw_lc m225 d225_10 rfl rfl rfl
theorem d225_11 : decode cX12_takesIt 11 = .ok (.iaload, 1) := by decide +kernel
theorem s225_11 {d : Nat} {st : List Value} {σ : am_I} {ρ : am_R} {g : am_J} {τ : am_T} {Q : am_Q} {x0 x1 x2 x3 : Value} {a : Nat} {j : Int32} (ht : τ.1 a = 15) (hj : am_inb j (τ.2.1 a) = true) : AW d 225 11 [x0, x1, x2, x3] (.int j :: .ref a :: st) σ ρ g τ Q = AW d 225 12 [x0, x1, x2, x3] (.int (σ a j.toNatClampNeg) :: st) σ ρ g τ Q := aw_ial m225 d225_11 rfl ht hj
theorem d225_12 : decode cX12_takesIt 12 = .ok (.aload_n 0, 1) := by decide +kernel
theorem s225_12 {d : Nat} {st : List Value} {σ : am_I} {ρ : am_R} {g : am_J} {τ : am_T} {Q : am_Q} {x1 x2 x3 : Value} {v : Nat} : AW d 225 12 [.ref v, x1, x2, x3] (st) σ ρ g τ Q = AW d 225 13 [.ref v, x1, x2, x3] (.ref v :: st) σ ρ g τ Q := aw_lc m225 d225_12 rfl rfl rfl
theorem d225_13 : decode cX12_takesIt 13 = .ok (.getfield 64, 3) := by decide +kernel
theorem s225_13 {d : Nat} {st : List Value} {σ : am_I} {ρ : am_R} {g : am_J} {τ : am_T} {Q : am_Q} {x0 x1 x2 x3 : Value} {a : Nat} (ht : τ.1 a = 12) : AW d 225 13 [x0, x1, x2, x3] (.ref a :: st) σ ρ g τ Q = AW d 225 16 [x0, x1, x2, x3] (va_rf (ρ a 18) :: st) σ ρ g τ Q := aw_gr m225 d225_13 rfl rfl rfl ht
theorem d225_16 : decode cX12_takesIt 16 = .ok (.bipush 7, 2) := by decide +kernel
theorem s225_16 {d : Nat} {st : List Value} {σ : am_I} {ρ : am_R} {g : am_J} {τ : am_T} {Q : am_Q} {x0 x1 x2 x3 : Value} : AW d 225 16 [x0, x1, x2, x3] (st) σ ρ g τ Q = AW d 225 18 [x0, x1, x2, x3] (.int 7 :: st) σ ρ g τ Q := aw_lc m225 d225_16 rfl rfl rfl
theorem d225_18 : decode cX12_takesIt 18 = .ok (.iload_n 1, 1) := by decide +kernel
theorem s225_18 {d : Nat} {st : List Value} {σ : am_I} {ρ : am_R} {g : am_J} {τ : am_T} {Q : am_Q} {x0 x2 x3 : Value} {v : Int32} : AW d 225 18 [x0, .int v, x2, x3] (st) σ ρ g τ Q = AW d 225 19 [x0, .int v, x2, x3] (.int v :: st) σ ρ g τ Q := aw_lc m225 d225_18 rfl rfl rfl
theorem d225_19 : decode cX12_takesIt 19 = .ok (.imul, 1) := by decide +kernel
theorem s225_19 {d : Nat} {st : List Value} {σ : am_I} {ρ : am_R} {g : am_J} {τ : am_T} {Q : am_Q} {x0 x1 x2 x3 : Value} {v w : Int32} : AW d 225 19 [x0, x1, x2, x3] (.int w :: .int v :: st) σ ρ g τ Q = AW d 225 20 [x0, x1, x2, x3] (.int (v * w) :: st) σ ρ g τ Q := aw_lc m225 d225_19 rfl rfl rfl
theorem d225_20 : decode cX12_takesIt 20 = .ok (.aload_n 0, 1) := by decide +kernel
theorem s225_20 {d : Nat} {st : List Value} {σ : am_I} {ρ : am_R} {g : am_J} {τ : am_T} {Q : am_Q} {x1 x2 x3 : Value} {v : Nat} : AW d 225 20 [.ref v, x1, x2, x3] (st) σ ρ g τ Q = AW d 225 21 [.ref v, x1, x2, x3] (.ref v :: st) σ ρ g τ Q := aw_lc m225 d225_20 rfl rfl rfl
theorem d225_21 : decode cX12_takesIt 21 = .ok (.getfield 19, 3) := by decide +kernel
theorem s225_21 {d : Nat} {st : List Value} {σ : am_I} {ρ : am_R} {g : am_J} {τ : am_T} {Q : am_Q} {x0 x1 x2 x3 : Value} {a : Nat} (ht : τ.1 a = 12) : AW d 225 21 [x0, x1, x2, x3] (.ref a :: st) σ ρ g τ Q = AW d 225 24 [x0, x1, x2, x3] (va_rf (ρ a 3) :: st) σ ρ g τ Q := aw_gr m225 d225_21 rfl rfl rfl ht
theorem d225_24 : decode cX12_takesIt 24 = .ok (.aload_n 0, 1) := by decide +kernel
theorem s225_24 {d : Nat} {st : List Value} {σ : am_I} {ρ : am_R} {g : am_J} {τ : am_T} {Q : am_Q} {x1 x2 x3 : Value} {v : Nat} : AW d 225 24 [.ref v, x1, x2, x3] (st) σ ρ g τ Q = AW d 225 25 [.ref v, x1, x2, x3] (.ref v :: st) σ ρ g τ Q := aw_lc m225 d225_24 rfl rfl rfl
theorem d225_25 : decode cX12_takesIt 25 = .ok (.getfield 40, 3) := by decide +kernel
theorem s225_25 {d : Nat} {st : List Value} {σ : am_I} {ρ : am_R} {g : am_J} {τ : am_T} {Q : am_Q} {x0 x1 x2 x3 : Value} {a : Nat} (ht : τ.1 a = 12) : AW d 225 25 [x0, x1, x2, x3] (.ref a :: st) σ ρ g τ Q = AW d 225 28 [x0, x1, x2, x3] (va_rf (ρ a 10) :: st) σ ρ g τ Q := aw_gr m225 d225_25 rfl rfl rfl ht
theorem d225_28 : decode cX12_takesIt 28 = .ok (.iload_n 1, 1) := by decide +kernel
theorem s225_28 {d : Nat} {st : List Value} {σ : am_I} {ρ : am_R} {g : am_J} {τ : am_T} {Q : am_Q} {x0 x2 x3 : Value} {v : Int32} : AW d 225 28 [x0, .int v, x2, x3] (st) σ ρ g τ Q = AW d 225 29 [x0, .int v, x2, x3] (.int v :: st) σ ρ g τ Q := aw_lc m225 d225_28 rfl rfl rfl
theorem d225_29 : decode cX12_takesIt 29 = .ok (.iaload, 1) := by decide +kernel
theorem s225_29 {d : Nat} {st : List Value} {σ : am_I} {ρ : am_R} {g : am_J} {τ : am_T} {Q : am_Q} {x0 x1 x2 x3 : Value} {a : Nat} {j : Int32} (ht : τ.1 a = 15) (hj : am_inb j (τ.2.1 a) = true) : AW d 225 29 [x0, x1, x2, x3] (.int j :: .ref a :: st) σ ρ g τ Q = AW d 225 30 [x0, x1, x2, x3] (.int (σ a j.toNatClampNeg) :: st) σ ρ g τ Q := aw_ial m225 d225_29 rfl ht hj
theorem d225_30 : decode cX12_takesIt 30 = .ok (.iaload, 1) := by decide +kernel
theorem s225_30 {d : Nat} {st : List Value} {σ : am_I} {ρ : am_R} {g : am_J} {τ : am_T} {Q : am_Q} {x0 x1 x2 x3 : Value} {a : Nat} {j : Int32} (ht : τ.1 a = 15) (hj : am_inb j (τ.2.1 a) = true) : AW d 225 30 [x0, x1, x2, x3] (.int j :: .ref a :: st) σ ρ g τ Q = AW d 225 31 [x0, x1, x2, x3] (.int (σ a j.toNatClampNeg) :: st) σ ρ g τ Q := aw_ial m225 d225_30 rfl ht hj
theorem d225_31 : decode cX12_takesIt 31 = .ok (.iadd, 1) := by decide +kernel
theorem s225_31 {d : Nat} {st : List Value} {σ : am_I} {ρ : am_R} {g : am_J} {τ : am_T} {Q : am_Q} {x0 x1 x2 x3 : Value} {v w : Int32} : AW d 225 31 [x0, x1, x2, x3] (.int w :: .int v :: st) σ ρ g τ Q = AW d 225 32 [x0, x1, x2, x3] (.int (v + w) :: st) σ ρ g τ Q := aw_lc m225 d225_31 rfl rfl rfl
theorem d225_32 : decode cX12_takesIt 32 = .ok (.iaload, 1) := by decide +kernel
theorem s225_32 {d : Nat} {st : List Value} {σ : am_I} {ρ : am_R} {g : am_J} {τ : am_T} {Q : am_Q} {x0 x1 x2 x3 : Value} {a : Nat} {j : Int32} (ht : τ.1 a = 15) (hj : am_inb j (τ.2.1 a) = true) : AW d 225 32 [x0, x1, x2, x3] (.int j :: .ref a :: st) σ ρ g τ Q = AW d 225 33 [x0, x1, x2, x3] (.int (σ a j.toNatClampNeg) :: st) σ ρ g τ Q := aw_ial m225 d225_32 rfl ht hj
theorem d225_33 : decode cX12_takesIt 33 = .ok (.imul, 1) := by decide +kernel
theorem s225_33 {d : Nat} {st : List Value} {σ : am_I} {ρ : am_R} {g : am_J} {τ : am_T} {Q : am_Q} {x0 x1 x2 x3 : Value} {v w : Int32} : AW d 225 33 [x0, x1, x2, x3] (.int w :: .int v :: st) σ ρ g τ Q = AW d 225 34 [x0, x1, x2, x3] (.int (v * w) :: st) σ ρ g τ Q := aw_lc m225 d225_33 rfl rfl rfl
theorem d225_34 : decode cX12_takesIt 34 = .ok (.aload_n 0, 1) := by decide +kernel
theorem s225_34 {d : Nat} {st : List Value} {σ : am_I} {ρ : am_R} {g : am_J} {τ : am_T} {Q : am_Q} {x1 x2 x3 : Value} {v : Nat} : AW d 225 34 [.ref v, x1, x2, x3] (st) σ ρ g τ Q = AW d 225 35 [.ref v, x1, x2, x3] (.ref v :: st) σ ρ g τ Q := aw_lc m225 d225_34 rfl rfl rfl
theorem d225_35 : decode cX12_takesIt 35 = .ok (.getfield 49, 3) := by decide +kernel
theorem s225_35 {d : Nat} {st : List Value} {σ : am_I} {ρ : am_R} {g : am_J} {τ : am_T} {Q : am_Q} {x0 x1 x2 x3 : Value} {a : Nat} (ht : τ.1 a = 12) : AW d 225 35 [x0, x1, x2, x3] (.ref a :: st) σ ρ g τ Q = AW d 225 38 [x0, x1, x2, x3] (va_rf (ρ a 13) :: st) σ ρ g τ Q := aw_gr m225 d225_35 rfl rfl rfl ht
theorem d225_38 : decode cX12_takesIt 38 = .ok (.iload_n 1, 1) := by decide +kernel
theorem s225_38 {d : Nat} {st : List Value} {σ : am_I} {ρ : am_R} {g : am_J} {τ : am_T} {Q : am_Q} {x0 x2 x3 : Value} {v : Int32} : AW d 225 38 [x0, .int v, x2, x3] (st) σ ρ g τ Q = AW d 225 39 [x0, .int v, x2, x3] (.int v :: st) σ ρ g τ Q := aw_lc m225 d225_38 rfl rfl rfl
theorem d225_39 : decode cX12_takesIt 39 = .ok (.iaload, 1) := by decide +kernel
theorem s225_39 {d : Nat} {st : List Value} {σ : am_I} {ρ : am_R} {g : am_J} {τ : am_T} {Q : am_Q} {x0 x1 x2 x3 : Value} {a : Nat} {j : Int32} (ht : τ.1 a = 15) (hj : am_inb j (τ.2.1 a) = true) : AW d 225 39 [x0, x1, x2, x3] (.int j :: .ref a :: st) σ ρ g τ Q = AW d 225 40 [x0, x1, x2, x3] (.int (σ a j.toNatClampNeg) :: st) σ ρ g τ Q := aw_ial m225 d225_39 rfl ht hj
theorem d225_40 : decode cX12_takesIt 40 = .ok (.idiv, 1) := by decide +kernel
theorem s225_40 {d : Nat} {st : List Value} {σ : am_I} {ρ : am_R} {g : am_J} {τ : am_T} {Q : am_Q} {x0 x1 x2 x3 : Value} {v w : Int32} (h0 : ¬ w = 0) : AW d 225 40 [x0, x1, x2, x3] (.int w :: .int v :: st) σ ρ g τ Q = AW d 225 41 [x0, x1, x2, x3] (.int (v / w) :: st) σ ρ g τ Q := aw_div m225 d225_40 h0 rfl
theorem d225_41 : decode cX12_takesIt 41 = .ok (.if_icmp .lt 7, 3) := by decide +kernel
theorem s225_41 {d : Nat} {st : List Value} {σ : am_I} {ρ : am_R} {g : am_J} {τ : am_T} {Q : am_Q} {x0 x1 x2 x3 : Value} {v w : Int32} : AW d 225 41 [x0, x1, x2, x3] (.int w :: .int v :: st) σ ρ g τ Q = if v < w then AW d 225 48 [x0, x1, x2, x3] (st) σ ρ g τ Q else AW d 225 44 [x0, x1, x2, x3] (st) σ ρ g τ Q := aw_br m225 d225_41 rfl rfl rfl
theorem d225_44 : decode cX12_takesIt 44 = .ok (.iconst 1, 1) := by decide +kernel
theorem s225_44 {d : Nat} {st : List Value} {σ : am_I} {ρ : am_R} {g : am_J} {τ : am_T} {Q : am_Q} {x0 x1 x2 x3 : Value} : AW d 225 44 [x0, x1, x2, x3] (st) σ ρ g τ Q = AW d 225 45 [x0, x1, x2, x3] (.int 1 :: st) σ ρ g τ Q := aw_lc m225 d225_44 rfl rfl rfl
theorem d225_45 : decode cX12_takesIt 45 = .ok (.goto 4, 3) := by decide +kernel
theorem s225_45 {d : Nat} {st : List Value} {σ : am_I} {ρ : am_R} {g : am_J} {τ : am_T} {Q : am_Q} {x0 x1 x2 x3 : Value} : AW d 225 45 [x0, x1, x2, x3] (st) σ ρ g τ Q = AW d 225 49 [x0, x1, x2, x3] (st) σ ρ g τ Q := aw_lc m225 d225_45 rfl rfl rfl
theorem d225_48 : decode cX12_takesIt 48 = .ok (.iconst 0, 1) := by decide +kernel
theorem s225_48 {d : Nat} {st : List Value} {σ : am_I} {ρ : am_R} {g : am_J} {τ : am_T} {Q : am_Q} {x0 x1 x2 x3 : Value} : AW d 225 48 [x0, x1, x2, x3] (st) σ ρ g τ Q = AW d 225 49 [x0, x1, x2, x3] (.int 0 :: st) σ ρ g τ Q := aw_lc m225 d225_48 rfl rfl rfl
theorem d225_49 : decode cX12_takesIt 49 = .ok (.ireturn, 1) := by decide +kernel
theorem s225_49 {d : Nat} {σ : am_I} {ρ : am_R} {g : am_J} {τ : am_T} {Q : am_Q} {x0 x1 x2 x3 : Value} {v : Int32} (hv : am_b01 v = true) : AW d 225 49 [x0, x1, x2, x3] ([.int v]) σ ρ g τ Q = Q (some (.int v)) σ ρ g τ := aw_rz m225 d225_49 rfl hv
theorem d226_0 : decode cX12_swap 0 = .ok (.aload_n 0, 1) := by decide +kernel
theorem s226_0 {d : Nat} {st : List Value} {σ : am_I} {ρ : am_R} {g : am_J} {τ : am_T} {Q : am_Q} {x1 x2 x3 : Value} {v : Nat} : AW d 226 0 [.ref v, x1, x2, x3] (st) σ ρ g τ Q = AW d 226 1 [.ref v, x1, x2, x3] (.ref v :: st) σ ρ g τ Q := aw_lc m226 d226_0 rfl rfl rfl
theorem d226_1 : decode cX12_swap 1 = .ok (.iconst 2, 1) := by decide +kernel
theorem s226_1 {d : Nat} {st : List Value} {σ : am_I} {ρ : am_R} {g : am_J} {τ : am_T} {Q : am_Q} {x0 x1 x2 x3 : Value} : AW d 226 1 [x0, x1, x2, x3] (st) σ ρ g τ Q = AW d 226 2 [x0, x1, x2, x3] (.int 2 :: st) σ ρ g τ Q := aw_lc m226 d226_1 rfl rfl rfl
theorem d226_2 : decode cX12_swap 2 = .ok (.iload_n 1, 1) := by decide +kernel
theorem s226_2 {d : Nat} {st : List Value} {σ : am_I} {ρ : am_R} {g : am_J} {τ : am_T} {Q : am_Q} {x0 x2 x3 : Value} {v : Int32} : AW d 226 2 [x0, .int v, x2, x3] (st) σ ρ g τ Q = AW d 226 3 [x0, .int v, x2, x3] (.int v :: st) σ ρ g τ Q := aw_lc m226 d226_2 rfl rfl rfl
theorem d226_3 : decode cX12_swap 3 = .ok (.invokevirtual 210, 3) := by decide +kernel
theorem s226_3 {d : Nat} {st : List Value} {σ : am_I} {ρ : am_R} {g : am_J} {τ : am_T} {Q : am_Q} {x0 x1 x2 x3 : Value} {p0 : Nat} {p1 : Int32} {p2 : Int32} (ht : τ.1 p0 = 12) (hs : st.length ≤ 4) : AW (d + 1) 226 3 [x0, x1, x2, x3] (.int p2 :: .int p1 :: .ref p0 :: st) σ ρ g τ Q = AW d 167 0 [.ref p0, .int p1, .int p2] [] σ ρ g τ (fun r9 σ ρ g τ => AW (d + 1) 226 6 [x0, x1, x2, x3] (r9.toList ++ st) σ ρ g τ Q) := aw_cv m226 d226_3 rfl m167 rfl rfl (by decide) en167 ok167 rfl ht hs
theorem d226_6 : decode cX12_swap 6 = .ok (.ifCond .eq 24, 3) := by decide +kernel
theorem s226_6 {d : Nat} {st : List Value} {σ : am_I} {ρ : am_R} {g : am_J} {τ : am_T} {Q : am_Q} {x0 x1 x2 x3 : Value} {v : Int32} : AW d 226 6 [x0, x1, x2, x3] (.int v :: st) σ ρ g τ Q = if v = 0 then AW d 226 30 [x0, x1, x2, x3] (st) σ ρ g τ Q else AW d 226 9 [x0, x1, x2, x3] (st) σ ρ g τ Q := aw_br m226 d226_6 rfl rfl rfl
theorem d226_9 : decode cX12_swap 9 = .ok (.iload_n 2, 1) := by decide +kernel
theorem s226_9 {d : Nat} {st : List Value} {σ : am_I} {ρ : am_R} {g : am_J} {τ : am_T} {Q : am_Q} {x0 x1 x3 : Value} {v : Int32} : AW d 226 9 [x0, x1, .int v, x3] (st) σ ρ g τ Q = AW d 226 10 [x0, x1, .int v, x3] (.int v :: st) σ ρ g τ Q := aw_lc m226 d226_9 rfl rfl rfl
theorem d226_10 : decode cX12_swap 10 = .ok (.iconst 1, 1) := by decide +kernel
theorem s226_10 {d : Nat} {st : List Value} {σ : am_I} {ρ : am_R} {g : am_J} {τ : am_T} {Q : am_Q} {x0 x1 x2 x3 : Value} : AW d 226 10 [x0, x1, x2, x3] (st) σ ρ g τ Q = AW d 226 11 [x0, x1, x2, x3] (.int 1 :: st) σ ρ g τ Q := aw_lc m226 d226_10 rfl rfl rfl
theorem d226_11 : decode cX12_swap 11 = .ok (.sipush 999, 3) := by decide +kernel
theorem s226_11 {d : Nat} {st : List Value} {σ : am_I} {ρ : am_R} {g : am_J} {τ : am_T} {Q : am_Q} {x0 x1 x2 x3 : Value} : AW d 226 11 [x0, x1, x2, x3] (st) σ ρ g τ Q = AW d 226 14 [x0, x1, x2, x3] (.int 999 :: st) σ ρ g τ Q := aw_lc m226 d226_11 rfl rfl rfl
theorem d226_14 : decode cX12_swap 14 = .ok (.invokestatic 194, 3) := by decide +kernel
theorem s226_14 {d : Nat} {st : List Value} {σ : am_I} {ρ : am_R} {g : am_J} {τ : am_T} {Q : am_Q} {x0 x1 x2 x3 : Value} {p0 : Int32} {p1 : Int32} {p2 : Int32} (hs : st.length ≤ 4) : AW (d + 1) 226 14 [x0, x1, x2, x3] (.int p2 :: .int p1 :: .int p0 :: st) σ ρ g τ Q = AW d 165 0 [.int p0, .int p1, .int p2] [] σ ρ g τ (fun r9 σ ρ g τ => AW (d + 1) 226 17 [x0, x1, x2, x3] (r9.toList ++ st) σ ρ g τ Q) := aw_cs m226 d226_14 rfl (by simp only [List.length_cons]; omega) rfl rfl en165 ok165 rfl hs
theorem d226_17 : decode cX12_swap 17 = .ok (.ifCond .eq 13, 3) := by decide +kernel
theorem s226_17 {d : Nat} {st : List Value} {σ : am_I} {ρ : am_R} {g : am_J} {τ : am_T} {Q : am_Q} {x0 x1 x2 x3 : Value} {v : Int32} : AW d 226 17 [x0, x1, x2, x3] (.int v :: st) σ ρ g τ Q = if v = 0 then AW d 226 30 [x0, x1, x2, x3] (st) σ ρ g τ Q else AW d 226 20 [x0, x1, x2, x3] (st) σ ρ g τ Q := aw_br m226 d226_17 rfl rfl rfl
theorem d226_20 : decode cX12_swap 20 = .ok (.iload_n 3, 1) := by decide +kernel
theorem s226_20 {d : Nat} {st : List Value} {σ : am_I} {ρ : am_R} {g : am_J} {τ : am_T} {Q : am_Q} {x0 x1 x2 : Value} {v : Int32} : AW d 226 20 [x0, x1, x2, .int v] (st) σ ρ g τ Q = AW d 226 21 [x0, x1, x2, .int v] (.int v :: st) σ ρ g τ Q := aw_lc m226 d226_20 rfl rfl rfl
theorem d226_21 : decode cX12_swap 21 = .ok (.iconst 1, 1) := by decide +kernel
theorem s226_21 {d : Nat} {st : List Value} {σ : am_I} {ρ : am_R} {g : am_J} {τ : am_T} {Q : am_Q} {x0 x1 x2 x3 : Value} : AW d 226 21 [x0, x1, x2, x3] (st) σ ρ g τ Q = AW d 226 22 [x0, x1, x2, x3] (.int 1 :: st) σ ρ g τ Q := aw_lc m226 d226_21 rfl rfl rfl
theorem d226_22 : decode cX12_swap 22 = .ok (.bipush 12, 2) := by decide +kernel
theorem s226_22 {d : Nat} {st : List Value} {σ : am_I} {ρ : am_R} {g : am_J} {τ : am_T} {Q : am_Q} {x0 x1 x2 x3 : Value} : AW d 226 22 [x0, x1, x2, x3] (st) σ ρ g τ Q = AW d 226 24 [x0, x1, x2, x3] (.int 12 :: st) σ ρ g τ Q := aw_lc m226 d226_22 rfl rfl rfl
theorem d226_24 : decode cX12_swap 24 = .ok (.invokestatic 194, 3) := by decide +kernel
theorem s226_24 {d : Nat} {st : List Value} {σ : am_I} {ρ : am_R} {g : am_J} {τ : am_T} {Q : am_Q} {x0 x1 x2 x3 : Value} {p0 : Int32} {p1 : Int32} {p2 : Int32} (hs : st.length ≤ 4) : AW (d + 1) 226 24 [x0, x1, x2, x3] (.int p2 :: .int p1 :: .int p0 :: st) σ ρ g τ Q = AW d 165 0 [.int p0, .int p1, .int p2] [] σ ρ g τ (fun r9 σ ρ g τ => AW (d + 1) 226 27 [x0, x1, x2, x3] (r9.toList ++ st) σ ρ g τ Q) := aw_cs m226 d226_24 rfl (by simp only [List.length_cons]; omega) rfl rfl en165 ok165 rfl hs
theorem d226_27 : decode cX12_swap 27 = .ok (.ifCond .ne 5, 3) := by decide +kernel
theorem s226_27 {d : Nat} {st : List Value} {σ : am_I} {ρ : am_R} {g : am_J} {τ : am_T} {Q : am_Q} {x0 x1 x2 x3 : Value} {v : Int32} : AW d 226 27 [x0, x1, x2, x3] (.int v :: st) σ ρ g τ Q = if ¬ v = 0 then AW d 226 32 [x0, x1, x2, x3] (st) σ ρ g τ Q else AW d 226 30 [x0, x1, x2, x3] (st) σ ρ g τ Q := aw_br m226 d226_27 rfl rfl rfl
theorem d226_30 : decode cX12_swap 30 = .ok (.iconst (-1), 1) := by decide +kernel
theorem s226_30 {d : Nat} {st : List Value} {σ : am_I} {ρ : am_R} {g : am_J} {τ : am_T} {Q : am_Q} {x0 x1 x2 x3 : Value} : AW d 226 30 [x0, x1, x2, x3] (st) σ ρ g τ Q = AW d 226 31 [x0, x1, x2, x3] (.int (-1) :: st) σ ρ g τ Q := aw_lc m226 d226_30 rfl rfl rfl
theorem d226_31 : decode cX12_swap 31 = .ok (.ireturn, 1) := by decide +kernel
theorem s226_31 {d : Nat} {σ : am_I} {ρ : am_R} {g : am_J} {τ : am_T} {Q : am_Q} {x0 x1 x2 x3 : Value} {v : Int32} : AW d 226 31 [x0, x1, x2, x3] ([.int v]) σ ρ g τ Q = Q (some (.int v)) σ ρ g τ := aw_ri m226 d226_31 rfl
theorem d226_32 : decode cX12_swap 32 = .ok (.aload_n 0, 1) := by decide +kernel
theorem s226_32 {d : Nat} {st : List Value} {σ : am_I} {ρ : am_R} {g : am_J} {τ : am_T} {Q : am_Q} {x1 x2 x3 : Value} {v : Nat} : AW d 226 32 [.ref v, x1, x2, x3] (st) σ ρ g τ Q = AW d 226 33 [.ref v, x1, x2, x3] (.ref v :: st) σ ρ g τ Q := aw_lc m226 d226_32 rfl rfl rfl
theorem d226_33 : decode cX12_swap 33 = .ok (.getfield 37, 3) := by decide +kernel
theorem s226_33 {d : Nat} {st : List Value} {σ : am_I} {ρ : am_R} {g : am_J} {τ : am_T} {Q : am_Q} {x0 x1 x2 x3 : Value} {a : Nat} (ht : τ.1 a = 12) : AW d 226 33 [x0, x1, x2, x3] (.ref a :: st) σ ρ g τ Q = AW d 226 36 [x0, x1, x2, x3] (va_rf (ρ a 9) :: st) σ ρ g τ Q := aw_gr m226 d226_33 rfl rfl rfl ht
theorem d226_36 : decode cX12_swap 36 = .ok (.iload_n 1, 1) := by decide +kernel
theorem s226_36 {d : Nat} {st : List Value} {σ : am_I} {ρ : am_R} {g : am_J} {τ : am_T} {Q : am_Q} {x0 x2 x3 : Value} {v : Int32} : AW d 226 36 [x0, .int v, x2, x3] (st) σ ρ g τ Q = AW d 226 37 [x0, .int v, x2, x3] (.int v :: st) σ ρ g τ Q := aw_lc m226 d226_36 rfl rfl rfl
theorem d226_37 : decode cX12_swap 37 = .ok (.iaload, 1) := by decide +kernel
theorem s226_37 {d : Nat} {st : List Value} {σ : am_I} {ρ : am_R} {g : am_J} {τ : am_T} {Q : am_Q} {x0 x1 x2 x3 : Value} {a : Nat} {j : Int32} (ht : τ.1 a = 15) (hj : am_inb j (τ.2.1 a) = true) : AW d 226 37 [x0, x1, x2, x3] (.int j :: .ref a :: st) σ ρ g τ Q = AW d 226 38 [x0, x1, x2, x3] (.int (σ a j.toNatClampNeg) :: st) σ ρ g τ Q := aw_ial m226 d226_37 rfl ht hj
theorem d226_38 : decode cX12_swap 38 = .ok (.ifCond .ne 23, 3) := by decide +kernel
theorem s226_38 {d : Nat} {st : List Value} {σ : am_I} {ρ : am_R} {g : am_J} {τ : am_T} {Q : am_Q} {x0 x1 x2 x3 : Value} {v : Int32} : AW d 226 38 [x0, x1, x2, x3] (.int v :: st) σ ρ g τ Q = if ¬ v = 0 then AW d 226 61 [x0, x1, x2, x3] (st) σ ρ g τ Q else AW d 226 41 [x0, x1, x2, x3] (st) σ ρ g τ Q := aw_br m226 d226_38 rfl rfl rfl
theorem d226_41 : decode cX12_swap 41 = .ok (.aload_n 0, 1) := by decide +kernel
theorem s226_41 {d : Nat} {st : List Value} {σ : am_I} {ρ : am_R} {g : am_J} {τ : am_T} {Q : am_Q} {x1 x2 x3 : Value} {v : Nat} : AW d 226 41 [.ref v, x1, x2, x3] (st) σ ρ g τ Q = AW d 226 42 [.ref v, x1, x2, x3] (.ref v :: st) σ ρ g τ Q := aw_lc m226 d226_41 rfl rfl rfl
theorem d226_42 : decode cX12_swap 42 = .ok (.getfield 58, 3) := by decide +kernel
theorem s226_42 {d : Nat} {st : List Value} {σ : am_I} {ρ : am_R} {g : am_J} {τ : am_T} {Q : am_Q} {x0 x1 x2 x3 : Value} {a : Nat} (ht : τ.1 a = 12) : AW d 226 42 [x0, x1, x2, x3] (.ref a :: st) σ ρ g τ Q = AW d 226 45 [x0, x1, x2, x3] (va_rf (ρ a 16) :: st) σ ρ g τ Q := aw_gr m226 d226_42 rfl rfl rfl ht
theorem d226_45 : decode cX12_swap 45 = .ok (.iload_n 1, 1) := by decide +kernel
theorem s226_45 {d : Nat} {st : List Value} {σ : am_I} {ρ : am_R} {g : am_J} {τ : am_T} {Q : am_Q} {x0 x2 x3 : Value} {v : Int32} : AW d 226 45 [x0, .int v, x2, x3] (st) σ ρ g τ Q = AW d 226 46 [x0, .int v, x2, x3] (.int v :: st) σ ρ g τ Q := aw_lc m226 d226_45 rfl rfl rfl
theorem d226_46 : decode cX12_swap 46 = .ok (.iaload, 1) := by decide +kernel
theorem s226_46 {d : Nat} {st : List Value} {σ : am_I} {ρ : am_R} {g : am_J} {τ : am_T} {Q : am_Q} {x0 x1 x2 x3 : Value} {a : Nat} {j : Int32} (ht : τ.1 a = 15) (hj : am_inb j (τ.2.1 a) = true) : AW d 226 46 [x0, x1, x2, x3] (.int j :: .ref a :: st) σ ρ g τ Q = AW d 226 47 [x0, x1, x2, x3] (.int (σ a j.toNatClampNeg) :: st) σ ρ g τ Q := aw_ial m226 d226_46 rfl ht hj
theorem d226_47 : decode cX12_swap 47 = .ok (.iconst 1, 1) := by decide +kernel
theorem s226_47 {d : Nat} {st : List Value} {σ : am_I} {ρ : am_R} {g : am_J} {τ : am_T} {Q : am_Q} {x0 x1 x2 x3 : Value} : AW d 226 47 [x0, x1, x2, x3] (st) σ ρ g τ Q = AW d 226 48 [x0, x1, x2, x3] (.int 1 :: st) σ ρ g τ Q := aw_lc m226 d226_47 rfl rfl rfl
theorem d226_48 : decode cX12_swap 48 = .ok (.if_icmp .eq 13, 3) := by decide +kernel
theorem s226_48 {d : Nat} {st : List Value} {σ : am_I} {ρ : am_R} {g : am_J} {τ : am_T} {Q : am_Q} {x0 x1 x2 x3 : Value} {v w : Int32} : AW d 226 48 [x0, x1, x2, x3] (.int w :: .int v :: st) σ ρ g τ Q = if v = w then AW d 226 61 [x0, x1, x2, x3] (st) σ ρ g τ Q else AW d 226 51 [x0, x1, x2, x3] (st) σ ρ g τ Q := aw_br m226 d226_48 rfl rfl rfl
theorem d226_51 : decode cX12_swap 51 = .ok (.aload_n 0, 1) := by decide +kernel
theorem s226_51 {d : Nat} {st : List Value} {σ : am_I} {ρ : am_R} {g : am_J} {τ : am_T} {Q : am_Q} {x1 x2 x3 : Value} {v : Nat} : AW d 226 51 [.ref v, x1, x2, x3] (st) σ ρ g τ Q = AW d 226 52 [.ref v, x1, x2, x3] (.ref v :: st) σ ρ g τ Q := aw_lc m226 d226_51 rfl rfl rfl
theorem d226_52 : decode cX12_swap 52 = .ok (.iload_n 1, 1) := by decide +kernel
theorem s226_52 {d : Nat} {st : List Value} {σ : am_I} {ρ : am_R} {g : am_J} {τ : am_T} {Q : am_Q} {x0 x2 x3 : Value} {v : Int32} : AW d 226 52 [x0, .int v, x2, x3] (st) σ ρ g τ Q = AW d 226 53 [x0, .int v, x2, x3] (.int v :: st) σ ρ g τ Q := aw_lc m226 d226_52 rfl rfl rfl
theorem d226_53 : decode cX12_swap 53 = .ok (.iload_n 2, 1) := by decide +kernel
theorem s226_53 {d : Nat} {st : List Value} {σ : am_I} {ρ : am_R} {g : am_J} {τ : am_T} {Q : am_Q} {x0 x1 x3 : Value} {v : Int32} : AW d 226 53 [x0, x1, .int v, x3] (st) σ ρ g τ Q = AW d 226 54 [x0, x1, .int v, x3] (.int v :: st) σ ρ g τ Q := aw_lc m226 d226_53 rfl rfl rfl
theorem d226_54 : decode cX12_swap 54 = .ok (.iload_n 3, 1) := by decide +kernel
theorem s226_54 {d : Nat} {st : List Value} {σ : am_I} {ρ : am_R} {g : am_J} {τ : am_T} {Q : am_Q} {x0 x1 x2 : Value} {v : Int32} : AW d 226 54 [x0, x1, x2, .int v] (st) σ ρ g τ Q = AW d 226 55 [x0, x1, x2, .int v] (.int v :: st) σ ρ g τ Q := aw_lc m226 d226_54 rfl rfl rfl
theorem d226_55 : decode cX12_swap 55 = .ok (.invokevirtual 404, 3) := by decide +kernel
theorem s226_55 {d : Nat} {st : List Value} {σ : am_I} {ρ : am_R} {g : am_J} {τ : am_T} {Q : am_Q} {x0 x1 x2 x3 : Value} {p0 : Nat} {p1 : Int32} {p2 : Int32} {p3 : Int32} (ht : τ.1 p0 = 12) (hs : st.length ≤ 4) : AW (d + 1) 226 55 [x0, x1, x2, x3] (.int p3 :: .int p2 :: .int p1 :: .ref p0 :: st) σ ρ g τ Q = AW d 225 0 [.ref p0, .int p1, .int p2, .int p3] [] σ ρ g τ (fun r9 σ ρ g τ => AW (d + 1) 226 58 [x0, x1, x2, x3] (r9.toList ++ st) σ ρ g τ Q) := aw_cv m226 d226_55 rfl m225 rfl rfl (by decide) en225 ok225 rfl ht hs
theorem d226_58 : decode cX12_swap 58 = .ok (.ifCond .ne 6, 3) := by decide +kernel
theorem s226_58 {d : Nat} {st : List Value} {σ : am_I} {ρ : am_R} {g : am_J} {τ : am_T} {Q : am_Q} {x0 x1 x2 x3 : Value} {v : Int32} : AW d 226 58 [x0, x1, x2, x3] (.int v :: st) σ ρ g τ Q = if ¬ v = 0 then AW d 226 64 [x0, x1, x2, x3] (st) σ ρ g τ Q else AW d 226 61 [x0, x1, x2, x3] (st) σ ρ g τ Q := aw_br m226 d226_58 rfl rfl rfl
theorem d226_61 : decode cX12_swap 61 = .ok (.bipush (-4), 2) := by decide +kernel
theorem s226_61 {d : Nat} {st : List Value} {σ : am_I} {ρ : am_R} {g : am_J} {τ : am_T} {Q : am_Q} {x0 x1 x2 x3 : Value} : AW d 226 61 [x0, x1, x2, x3] (st) σ ρ g τ Q = AW d 226 63 [x0, x1, x2, x3] (.int (-4) :: st) σ ρ g τ Q := aw_lc m226 d226_61 rfl rfl rfl
theorem d226_63 : decode cX12_swap 63 = .ok (.ireturn, 1) := by decide +kernel
theorem s226_63 {d : Nat} {σ : am_I} {ρ : am_R} {g : am_J} {τ : am_T} {Q : am_Q} {x0 x1 x2 x3 : Value} {v : Int32} : AW d 226 63 [x0, x1, x2, x3] ([.int v]) σ ρ g τ Q = Q (some (.int v)) σ ρ g τ := aw_ri m226 d226_63 rfl
theorem d226_64 : decode cX12_swap 64 = .ok (.aload_n 0, 1) := by decide +kernel
theorem s226_64 {d : Nat} {st : List Value} {σ : am_I} {ρ : am_R} {g : am_J} {τ : am_T} {Q : am_Q} {x1 x2 x3 : Value} {v : Nat} : AW d 226 64 [.ref v, x1, x2, x3] (st) σ ρ g τ Q = AW d 226 65 [.ref v, x1, x2, x3] (.ref v :: st) σ ρ g τ Q := aw_lc m226 d226_64 rfl rfl rfl
theorem d226_65 : decode cX12_swap 65 = .ok (.getfield 9, 3) := by decide +kernel
theorem s226_65 {d : Nat} {st : List Value} {σ : am_I} {ρ : am_R} {g : am_J} {τ : am_T} {Q : am_Q} {x0 x1 x2 x3 : Value} {a : Nat} (ht : τ.1 a = 12) : AW d 226 65 [x0, x1, x2, x3] (.ref a :: st) σ ρ g τ Q = AW d 226 68 [x0, x1, x2, x3] (va_rf (ρ a 0) :: st) σ ρ g τ Q := aw_gr m226 d226_65 rfl rfl rfl ht
theorem d226_68 : decode cX12_swap 68 = .ok (.iconst 2, 1) := by decide +kernel
theorem s226_68 {d : Nat} {st : List Value} {σ : am_I} {ρ : am_R} {g : am_J} {τ : am_T} {Q : am_Q} {x0 x1 x2 x3 : Value} : AW d 226 68 [x0, x1, x2, x3] (st) σ ρ g τ Q = AW d 226 69 [x0, x1, x2, x3] (.int 2 :: st) σ ρ g τ Q := aw_lc m226 d226_68 rfl rfl rfl
theorem d226_69 : decode cX12_swap 69 = .ok (.iaload, 1) := by decide +kernel
theorem s226_69 {d : Nat} {st : List Value} {σ : am_I} {ρ : am_R} {g : am_J} {τ : am_T} {Q : am_Q} {x0 x1 x2 x3 : Value} {a : Nat} {j : Int32} (ht : τ.1 a = 15) (hj : am_inb j (τ.2.1 a) = true) : AW d 226 69 [x0, x1, x2, x3] (.int j :: .ref a :: st) σ ρ g τ Q = AW d 226 70 [x0, x1, x2, x3] (.int (σ a j.toNatClampNeg) :: st) σ ρ g τ Q := aw_ial m226 d226_69 rfl ht hj
theorem d226_70 : decode cX12_swap 70 = .ok (.bipush 16, 2) := by decide +kernel
theorem s226_70 {d : Nat} {st : List Value} {σ : am_I} {ρ : am_R} {g : am_J} {τ : am_T} {Q : am_Q} {x0 x1 x2 x3 : Value} : AW d 226 70 [x0, x1, x2, x3] (st) σ ρ g τ Q = AW d 226 72 [x0, x1, x2, x3] (.int 16 :: st) σ ρ g τ Q := aw_lc m226 d226_70 rfl rfl rfl
theorem d226_72 : decode cX12_swap 72 = .ok (.if_icmp .ne 6, 3) := by decide +kernel
theorem s226_72 {d : Nat} {st : List Value} {σ : am_I} {ρ : am_R} {g : am_J} {τ : am_T} {Q : am_Q} {x0 x1 x2 x3 : Value} {v w : Int32} : AW d 226 72 [x0, x1, x2, x3] (.int w :: .int v :: st) σ ρ g τ Q = if ¬ v = w then AW d 226 78 [x0, x1, x2, x3] (st) σ ρ g τ Q else AW d 226 75 [x0, x1, x2, x3] (st) σ ρ g τ Q := aw_br m226 d226_72 rfl rfl rfl
theorem d226_75 : decode cX12_swap 75 = .ok (.bipush (-2), 2) := by decide +kernel
theorem s226_75 {d : Nat} {st : List Value} {σ : am_I} {ρ : am_R} {g : am_J} {τ : am_T} {Q : am_Q} {x0 x1 x2 x3 : Value} : AW d 226 75 [x0, x1, x2, x3] (st) σ ρ g τ Q = AW d 226 77 [x0, x1, x2, x3] (.int (-2) :: st) σ ρ g τ Q := aw_lc m226 d226_75 rfl rfl rfl
theorem d226_77 : decode cX12_swap 77 = .ok (.ireturn, 1) := by decide +kernel
theorem s226_77 {d : Nat} {σ : am_I} {ρ : am_R} {g : am_J} {τ : am_T} {Q : am_Q} {x0 x1 x2 x3 : Value} {v : Int32} : AW d 226 77 [x0, x1, x2, x3] ([.int v]) σ ρ g τ Q = Q (some (.int v)) σ ρ g τ := aw_ri m226 d226_77 rfl
theorem d226_78 : decode cX12_swap 78 = .ok (.aload_n 0, 1) := by decide +kernel
theorem s226_78 {d : Nat} {st : List Value} {σ : am_I} {ρ : am_R} {g : am_J} {τ : am_T} {Q : am_Q} {x1 x2 x3 : Value} {v : Nat} : AW d 226 78 [.ref v, x1, x2, x3] (st) σ ρ g τ Q = AW d 226 79 [.ref v, x1, x2, x3] (.ref v :: st) σ ρ g τ Q := aw_lc m226 d226_78 rfl rfl rfl
theorem d226_79 : decode cX12_swap 79 = .ok (.getfield 58, 3) := by decide +kernel
theorem s226_79 {d : Nat} {st : List Value} {σ : am_I} {ρ : am_R} {g : am_J} {τ : am_T} {Q : am_Q} {x0 x1 x2 x3 : Value} {a : Nat} (ht : τ.1 a = 12) : AW d 226 79 [x0, x1, x2, x3] (.ref a :: st) σ ρ g τ Q = AW d 226 82 [x0, x1, x2, x3] (va_rf (ρ a 16) :: st) σ ρ g τ Q := aw_gr m226 d226_79 rfl rfl rfl ht
theorem d226_82 : decode cX12_swap 82 = .ok (.iload_n 1, 1) := by decide +kernel
theorem s226_82 {d : Nat} {st : List Value} {σ : am_I} {ρ : am_R} {g : am_J} {τ : am_T} {Q : am_Q} {x0 x2 x3 : Value} {v : Int32} : AW d 226 82 [x0, .int v, x2, x3] (st) σ ρ g τ Q = AW d 226 83 [x0, .int v, x2, x3] (.int v :: st) σ ρ g τ Q := aw_lc m226 d226_82 rfl rfl rfl
theorem d226_83 : decode cX12_swap 83 = .ok (.iconst 1, 1) := by decide +kernel
theorem s226_83 {d : Nat} {st : List Value} {σ : am_I} {ρ : am_R} {g : am_J} {τ : am_T} {Q : am_Q} {x0 x1 x2 x3 : Value} : AW d 226 83 [x0, x1, x2, x3] (st) σ ρ g τ Q = AW d 226 84 [x0, x1, x2, x3] (.int 1 :: st) σ ρ g τ Q := aw_lc m226 d226_83 rfl rfl rfl
theorem d226_84 : decode cX12_swap 84 = .ok (.iastore, 1) := by decide +kernel
theorem s226_84 {d : Nat} {st : List Value} {σ : am_I} {ρ : am_R} {g : am_J} {τ : am_T} {Q : am_Q} {x0 x1 x2 x3 : Value} {a : Nat} {j v : Int32} (ht : τ.1 a = 15) (ha : a < am_BG) (hj : am_inb j (τ.2.1 a) = true) : AW d 226 84 [x0, x1, x2, x3] (.int v :: .int j :: .ref a :: st) σ ρ g τ Q = AW d 226 85 [x0, x1, x2, x3] (st) (am_u σ a j.toNatClampNeg v) ρ g τ Q := aw_ias m226 d226_84 rfl ht ha hj
theorem d226_85 : decode cX12_swap 85 = .ok (.aload_n 0, 1) := by decide +kernel
theorem s226_85 {d : Nat} {st : List Value} {σ : am_I} {ρ : am_R} {g : am_J} {τ : am_T} {Q : am_Q} {x1 x2 x3 : Value} {v : Nat} : AW d 226 85 [.ref v, x1, x2, x3] (st) σ ρ g τ Q = AW d 226 86 [.ref v, x1, x2, x3] (.ref v :: st) σ ρ g τ Q := aw_lc m226 d226_85 rfl rfl rfl
theorem d226_86 : decode cX12_swap 86 = .ok (.aload_n 0, 1) := by decide +kernel
theorem s226_86 {d : Nat} {st : List Value} {σ : am_I} {ρ : am_R} {g : am_J} {τ : am_T} {Q : am_Q} {x1 x2 x3 : Value} {v : Nat} : AW d 226 86 [.ref v, x1, x2, x3] (st) σ ρ g τ Q = AW d 226 87 [.ref v, x1, x2, x3] (.ref v :: st) σ ρ g τ Q := aw_lc m226 d226_86 rfl rfl rfl
theorem d226_87 : decode cX12_swap 87 = .ok (.getfield 40, 3) := by decide +kernel
theorem s226_87 {d : Nat} {st : List Value} {σ : am_I} {ρ : am_R} {g : am_J} {τ : am_T} {Q : am_Q} {x0 x1 x2 x3 : Value} {a : Nat} (ht : τ.1 a = 12) : AW d 226 87 [x0, x1, x2, x3] (.ref a :: st) σ ρ g τ Q = AW d 226 90 [x0, x1, x2, x3] (va_rf (ρ a 10) :: st) σ ρ g τ Q := aw_gr m226 d226_87 rfl rfl rfl ht
theorem d226_90 : decode cX12_swap 90 = .ok (.iload_n 1, 1) := by decide +kernel
theorem s226_90 {d : Nat} {st : List Value} {σ : am_I} {ρ : am_R} {g : am_J} {τ : am_T} {Q : am_Q} {x0 x2 x3 : Value} {v : Int32} : AW d 226 90 [x0, .int v, x2, x3] (st) σ ρ g τ Q = AW d 226 91 [x0, .int v, x2, x3] (.int v :: st) σ ρ g τ Q := aw_lc m226 d226_90 rfl rfl rfl
theorem d226_91 : decode cX12_swap 91 = .ok (.iaload, 1) := by decide +kernel
theorem s226_91 {d : Nat} {st : List Value} {σ : am_I} {ρ : am_R} {g : am_J} {τ : am_T} {Q : am_Q} {x0 x1 x2 x3 : Value} {a : Nat} {j : Int32} (ht : τ.1 a = 15) (hj : am_inb j (τ.2.1 a) = true) : AW d 226 91 [x0, x1, x2, x3] (.int j :: .ref a :: st) σ ρ g τ Q = AW d 226 92 [x0, x1, x2, x3] (.int (σ a j.toNatClampNeg) :: st) σ ρ g τ Q := aw_ial m226 d226_91 rfl ht hj
theorem d226_92 : decode cX12_swap 92 = .ok (.iconst 0, 1) := by decide +kernel
theorem s226_92 {d : Nat} {st : List Value} {σ : am_I} {ρ : am_R} {g : am_J} {τ : am_T} {Q : am_Q} {x0 x1 x2 x3 : Value} : AW d 226 92 [x0, x1, x2, x3] (st) σ ρ g τ Q = AW d 226 93 [x0, x1, x2, x3] (.int 0 :: st) σ ρ g τ Q := aw_lc m226 d226_92 rfl rfl rfl
theorem d226_93 : decode cX12_swap 93 = .ok (.aload_n 0, 1) := by decide +kernel
theorem s226_93 {d : Nat} {st : List Value} {σ : am_I} {ρ : am_R} {g : am_J} {τ : am_T} {Q : am_Q} {x1 x2 x3 : Value} {v : Nat} : AW d 226 93 [.ref v, x1, x2, x3] (st) σ ρ g τ Q = AW d 226 94 [.ref v, x1, x2, x3] (.ref v :: st) σ ρ g τ Q := aw_lc m226 d226_93 rfl rfl rfl
theorem d226_94 : decode cX12_swap 94 = .ok (.getfield 43, 3) := by decide +kernel
theorem s226_94 {d : Nat} {st : List Value} {σ : am_I} {ρ : am_R} {g : am_J} {τ : am_T} {Q : am_Q} {x0 x1 x2 x3 : Value} {a : Nat} (ht : τ.1 a = 12) : AW d 226 94 [x0, x1, x2, x3] (.ref a :: st) σ ρ g τ Q = AW d 226 97 [x0, x1, x2, x3] (va_rf (ρ a 11) :: st) σ ρ g τ Q := aw_gr m226 d226_94 rfl rfl rfl ht
theorem d226_97 : decode cX12_swap 97 = .ok (.iload_n 1, 1) := by decide +kernel
theorem s226_97 {d : Nat} {st : List Value} {σ : am_I} {ρ : am_R} {g : am_J} {τ : am_T} {Q : am_Q} {x0 x2 x3 : Value} {v : Int32} : AW d 226 97 [x0, .int v, x2, x3] (st) σ ρ g τ Q = AW d 226 98 [x0, .int v, x2, x3] (.int v :: st) σ ρ g τ Q := aw_lc m226 d226_97 rfl rfl rfl
theorem d226_98 : decode cX12_swap 98 = .ok (.iaload, 1) := by decide +kernel
theorem s226_98 {d : Nat} {st : List Value} {σ : am_I} {ρ : am_R} {g : am_J} {τ : am_T} {Q : am_Q} {x0 x1 x2 x3 : Value} {a : Nat} {j : Int32} (ht : τ.1 a = 15) (hj : am_inb j (τ.2.1 a) = true) : AW d 226 98 [x0, x1, x2, x3] (.int j :: .ref a :: st) σ ρ g τ Q = AW d 226 99 [x0, x1, x2, x3] (.int (σ a j.toNatClampNeg) :: st) σ ρ g τ Q := aw_ial m226 d226_98 rfl ht hj
theorem d226_99 : decode cX12_swap 99 = .ok (.iload_n 2, 1) := by decide +kernel
theorem s226_99 {d : Nat} {st : List Value} {σ : am_I} {ρ : am_R} {g : am_J} {τ : am_T} {Q : am_Q} {x0 x1 x3 : Value} {v : Int32} : AW d 226 99 [x0, x1, .int v, x3] (st) σ ρ g τ Q = AW d 226 100 [x0, x1, .int v, x3] (.int v :: st) σ ρ g τ Q := aw_lc m226 d226_99 rfl rfl rfl
theorem d226_100 : decode cX12_swap 100 = .ok (.iload_n 3, 1) := by decide +kernel
theorem s226_100 {d : Nat} {st : List Value} {σ : am_I} {ρ : am_R} {g : am_J} {τ : am_T} {Q : am_Q} {x0 x1 x2 : Value} {v : Int32} : AW d 226 100 [x0, x1, x2, .int v] (st) σ ρ g τ Q = AW d 226 101 [x0, x1, x2, .int v] (.int v :: st) σ ρ g τ Q := aw_lc m226 d226_100 rfl rfl rfl
theorem d226_101 : decode cX12_swap 101 = .ok (.invokevirtual 379, 3) := by decide +kernel
theorem s226_101 {d : Nat} {st : List Value} {σ : am_I} {ρ : am_R} {g : am_J} {τ : am_T} {Q : am_Q} {x0 x1 x2 x3 : Value} {p0 : Nat} {p1 : Int32} {p2 : Int32} {p3 : Int32} {p4 : Int32} {p5 : Int32} (ht : τ.1 p0 = 12) (hs : st.length ≤ 4) : AW (d + 1) 226 101 [x0, x1, x2, x3] (.int p5 :: .int p4 :: .int p3 :: .int p2 :: .int p1 :: .ref p0 :: st) σ ρ g τ Q = AW d 211 0 [.ref p0, .int p1, .int p2, .int p3, .int p4, .int p5, am_jk, am_jk] [] σ ρ g τ (fun r9 σ ρ g τ => AW (d + 1) 226 104 [x0, x1, x2, x3] (r9.toList ++ st) σ ρ g τ Q) := aw_cv m226 d226_101 rfl m211 rfl rfl (by decide) en211 ok211 rfl ht hs
theorem d226_104 : decode cX12_swap 104 = .ok (.ireturn, 1) := by decide +kernel
theorem s226_104 {d : Nat} {σ : am_I} {ρ : am_R} {g : am_J} {τ : am_T} {Q : am_Q} {x0 x1 x2 x3 : Value} {v : Int32} : AW d 226 104 [x0, x1, x2, x3] ([.int v]) σ ρ g τ Q = Q (some (.int v)) σ ρ g τ := aw_ri m226 d226_104 rfl
theorem d227_0 : decode cX12_offer 0 = .ok (.aload_n 0, 1) := by decide +kernel
theorem s227_0 {d : Nat} {st : List Value} {σ : am_I} {ρ : am_R} {g : am_J} {τ : am_T} {Q : am_Q} {x1 x2 x3 : Value} {v : Nat} : AW d 227 0 [.ref v, x1, x2, x3] (st) σ ρ g τ Q = AW d 227 1 [.ref v, x1, x2, x3] (.ref v :: st) σ ρ g τ Q := aw_lc m227 d227_0 rfl rfl rfl
theorem d227_1 : decode cX12_offer 1 = .ok (.iconst 2, 1) := by decide +kernel
theorem s227_1 {d : Nat} {st : List Value} {σ : am_I} {ρ : am_R} {g : am_J} {τ : am_T} {Q : am_Q} {x0 x1 x2 x3 : Value} : AW d 227 1 [x0, x1, x2, x3] (st) σ ρ g τ Q = AW d 227 2 [x0, x1, x2, x3] (.int 2 :: st) σ ρ g τ Q := aw_lc m227 d227_1 rfl rfl rfl
theorem d227_2 : decode cX12_offer 2 = .ok (.iload_n 1, 1) := by decide +kernel
theorem s227_2 {d : Nat} {st : List Value} {σ : am_I} {ρ : am_R} {g : am_J} {τ : am_T} {Q : am_Q} {x0 x2 x3 : Value} {v : Int32} : AW d 227 2 [x0, .int v, x2, x3] (st) σ ρ g τ Q = AW d 227 3 [x0, .int v, x2, x3] (.int v :: st) σ ρ g τ Q := aw_lc m227 d227_2 rfl rfl rfl
theorem d227_3 : decode cX12_offer 3 = .ok (.invokevirtual 210, 3) := by decide +kernel
theorem s227_3 {d : Nat} {st : List Value} {σ : am_I} {ρ : am_R} {g : am_J} {τ : am_T} {Q : am_Q} {x0 x1 x2 x3 : Value} {p0 : Nat} {p1 : Int32} {p2 : Int32} (ht : τ.1 p0 = 12) (hs : st.length ≤ 4) : AW (d + 1) 227 3 [x0, x1, x2, x3] (.int p2 :: .int p1 :: .ref p0 :: st) σ ρ g τ Q = AW d 167 0 [.ref p0, .int p1, .int p2] [] σ ρ g τ (fun r9 σ ρ g τ => AW (d + 1) 227 6 [x0, x1, x2, x3] (r9.toList ++ st) σ ρ g τ Q) := aw_cv m227 d227_3 rfl m167 rfl rfl (by decide) en167 ok167 rfl ht hs
theorem d227_6 : decode cX12_offer 6 = .ok (.ifCond .eq 13, 3) := by decide +kernel
theorem s227_6 {d : Nat} {st : List Value} {σ : am_I} {ρ : am_R} {g : am_J} {τ : am_T} {Q : am_Q} {x0 x1 x2 x3 : Value} {v : Int32} : AW d 227 6 [x0, x1, x2, x3] (.int v :: st) σ ρ g τ Q = if v = 0 then AW d 227 19 [x0, x1, x2, x3] (st) σ ρ g τ Q else AW d 227 9 [x0, x1, x2, x3] (st) σ ρ g τ Q := aw_br m227 d227_6 rfl rfl rfl
theorem d227_9 : decode cX12_offer 9 = .ok (.iload_n 2, 1) := by decide +kernel
theorem s227_9 {d : Nat} {st : List Value} {σ : am_I} {ρ : am_R} {g : am_J} {τ : am_T} {Q : am_Q} {x0 x1 x3 : Value} {v : Int32} : AW d 227 9 [x0, x1, .int v, x3] (st) σ ρ g τ Q = AW d 227 10 [x0, x1, .int v, x3] (.int v :: st) σ ρ g τ Q := aw_lc m227 d227_9 rfl rfl rfl
theorem d227_10 : decode cX12_offer 10 = .ok (.iconst 1, 1) := by decide +kernel
theorem s227_10 {d : Nat} {st : List Value} {σ : am_I} {ρ : am_R} {g : am_J} {τ : am_T} {Q : am_Q} {x0 x1 x2 x3 : Value} : AW d 227 10 [x0, x1, x2, x3] (st) σ ρ g τ Q = AW d 227 11 [x0, x1, x2, x3] (.int 1 :: st) σ ρ g τ Q := aw_lc m227 d227_10 rfl rfl rfl
theorem d227_11 : decode cX12_offer 11 = .ok (.bipush 12, 2) := by decide +kernel
theorem s227_11 {d : Nat} {st : List Value} {σ : am_I} {ρ : am_R} {g : am_J} {τ : am_T} {Q : am_Q} {x0 x1 x2 x3 : Value} : AW d 227 11 [x0, x1, x2, x3] (st) σ ρ g τ Q = AW d 227 13 [x0, x1, x2, x3] (.int 12 :: st) σ ρ g τ Q := aw_lc m227 d227_11 rfl rfl rfl
theorem d227_13 : decode cX12_offer 13 = .ok (.invokestatic 194, 3) := by decide +kernel
theorem s227_13 {d : Nat} {st : List Value} {σ : am_I} {ρ : am_R} {g : am_J} {τ : am_T} {Q : am_Q} {x0 x1 x2 x3 : Value} {p0 : Int32} {p1 : Int32} {p2 : Int32} (hs : st.length ≤ 4) : AW (d + 1) 227 13 [x0, x1, x2, x3] (.int p2 :: .int p1 :: .int p0 :: st) σ ρ g τ Q = AW d 165 0 [.int p0, .int p1, .int p2] [] σ ρ g τ (fun r9 σ ρ g τ => AW (d + 1) 227 16 [x0, x1, x2, x3] (r9.toList ++ st) σ ρ g τ Q) := aw_cs m227 d227_13 rfl (by simp only [List.length_cons]; omega) rfl rfl en165 ok165 rfl hs
theorem d227_16 : decode cX12_offer 16 = .ok (.ifCond .ne 5, 3) := by decide +kernel
theorem s227_16 {d : Nat} {st : List Value} {σ : am_I} {ρ : am_R} {g : am_J} {τ : am_T} {Q : am_Q} {x0 x1 x2 x3 : Value} {v : Int32} : AW d 227 16 [x0, x1, x2, x3] (.int v :: st) σ ρ g τ Q = if ¬ v = 0 then AW d 227 21 [x0, x1, x2, x3] (st) σ ρ g τ Q else AW d 227 19 [x0, x1, x2, x3] (st) σ ρ g τ Q := aw_br m227 d227_16 rfl rfl rfl
theorem d227_19 : decode cX12_offer 19 = .ok (.iconst (-1), 1) := by decide +kernel
theorem s227_19 {d : Nat} {st : List Value} {σ : am_I} {ρ : am_R} {g : am_J} {τ : am_T} {Q : am_Q} {x0 x1 x2 x3 : Value} : AW d 227 19 [x0, x1, x2, x3] (st) σ ρ g τ Q = AW d 227 20 [x0, x1, x2, x3] (.int (-1) :: st) σ ρ g τ Q := aw_lc m227 d227_19 rfl rfl rfl
theorem d227_20 : decode cX12_offer 20 = .ok (.ireturn, 1) := by decide +kernel
theorem s227_20 {d : Nat} {σ : am_I} {ρ : am_R} {g : am_J} {τ : am_T} {Q : am_Q} {x0 x1 x2 x3 : Value} {v : Int32} : AW d 227 20 [x0, x1, x2, x3] ([.int v]) σ ρ g τ Q = Q (some (.int v)) σ ρ g τ := aw_ri m227 d227_20 rfl
theorem d227_21 : decode cX12_offer 21 = .ok (.aload_n 0, 1) := by decide +kernel
theorem s227_21 {d : Nat} {st : List Value} {σ : am_I} {ρ : am_R} {g : am_J} {τ : am_T} {Q : am_Q} {x1 x2 x3 : Value} {v : Nat} : AW d 227 21 [.ref v, x1, x2, x3] (st) σ ρ g τ Q = AW d 227 22 [.ref v, x1, x2, x3] (.ref v :: st) σ ρ g τ Q := aw_lc m227 d227_21 rfl rfl rfl
theorem d227_22 : decode cX12_offer 22 = .ok (.getfield 37, 3) := by decide +kernel
theorem s227_22 {d : Nat} {st : List Value} {σ : am_I} {ρ : am_R} {g : am_J} {τ : am_T} {Q : am_Q} {x0 x1 x2 x3 : Value} {a : Nat} (ht : τ.1 a = 12) : AW d 227 22 [x0, x1, x2, x3] (.ref a :: st) σ ρ g τ Q = AW d 227 25 [x0, x1, x2, x3] (va_rf (ρ a 9) :: st) σ ρ g τ Q := aw_gr m227 d227_22 rfl rfl rfl ht
theorem d227_25 : decode cX12_offer 25 = .ok (.iload_n 1, 1) := by decide +kernel
theorem s227_25 {d : Nat} {st : List Value} {σ : am_I} {ρ : am_R} {g : am_J} {τ : am_T} {Q : am_Q} {x0 x2 x3 : Value} {v : Int32} : AW d 227 25 [x0, .int v, x2, x3] (st) σ ρ g τ Q = AW d 227 26 [x0, .int v, x2, x3] (.int v :: st) σ ρ g τ Q := aw_lc m227 d227_25 rfl rfl rfl
theorem d227_26 : decode cX12_offer 26 = .ok (.iaload, 1) := by decide +kernel
theorem s227_26 {d : Nat} {st : List Value} {σ : am_I} {ρ : am_R} {g : am_J} {τ : am_T} {Q : am_Q} {x0 x1 x2 x3 : Value} {a : Nat} {j : Int32} (ht : τ.1 a = 15) (hj : am_inb j (τ.2.1 a) = true) : AW d 227 26 [x0, x1, x2, x3] (.int j :: .ref a :: st) σ ρ g τ Q = AW d 227 27 [x0, x1, x2, x3] (.int (σ a j.toNatClampNeg) :: st) σ ρ g τ Q := aw_ial m227 d227_26 rfl ht hj
theorem d227_27 : decode cX12_offer 27 = .ok (.ifCond .ne 13, 3) := by decide +kernel
theorem s227_27 {d : Nat} {st : List Value} {σ : am_I} {ρ : am_R} {g : am_J} {τ : am_T} {Q : am_Q} {x0 x1 x2 x3 : Value} {v : Int32} : AW d 227 27 [x0, x1, x2, x3] (.int v :: st) σ ρ g τ Q = if ¬ v = 0 then AW d 227 40 [x0, x1, x2, x3] (st) σ ρ g τ Q else AW d 227 30 [x0, x1, x2, x3] (st) σ ρ g τ Q := aw_br m227 d227_27 rfl rfl rfl
theorem d227_30 : decode cX12_offer 30 = .ok (.aload_n 0, 1) := by decide +kernel
theorem s227_30 {d : Nat} {st : List Value} {σ : am_I} {ρ : am_R} {g : am_J} {τ : am_T} {Q : am_Q} {x1 x2 x3 : Value} {v : Nat} : AW d 227 30 [.ref v, x1, x2, x3] (st) σ ρ g τ Q = AW d 227 31 [.ref v, x1, x2, x3] (.ref v :: st) σ ρ g τ Q := aw_lc m227 d227_30 rfl rfl rfl
theorem d227_31 : decode cX12_offer 31 = .ok (.getfield 58, 3) := by decide +kernel
theorem s227_31 {d : Nat} {st : List Value} {σ : am_I} {ρ : am_R} {g : am_J} {τ : am_T} {Q : am_Q} {x0 x1 x2 x3 : Value} {a : Nat} (ht : τ.1 a = 12) : AW d 227 31 [x0, x1, x2, x3] (.ref a :: st) σ ρ g τ Q = AW d 227 34 [x0, x1, x2, x3] (va_rf (ρ a 16) :: st) σ ρ g τ Q := aw_gr m227 d227_31 rfl rfl rfl ht
theorem d227_34 : decode cX12_offer 34 = .ok (.iload_n 1, 1) := by decide +kernel
theorem s227_34 {d : Nat} {st : List Value} {σ : am_I} {ρ : am_R} {g : am_J} {τ : am_T} {Q : am_Q} {x0 x2 x3 : Value} {v : Int32} : AW d 227 34 [x0, .int v, x2, x3] (st) σ ρ g τ Q = AW d 227 35 [x0, .int v, x2, x3] (.int v :: st) σ ρ g τ Q := aw_lc m227 d227_34 rfl rfl rfl
theorem d227_35 : decode cX12_offer 35 = .ok (.iaload, 1) := by decide +kernel
theorem s227_35 {d : Nat} {st : List Value} {σ : am_I} {ρ : am_R} {g : am_J} {τ : am_T} {Q : am_Q} {x0 x1 x2 x3 : Value} {a : Nat} {j : Int32} (ht : τ.1 a = 15) (hj : am_inb j (τ.2.1 a) = true) : AW d 227 35 [x0, x1, x2, x3] (.int j :: .ref a :: st) σ ρ g τ Q = AW d 227 36 [x0, x1, x2, x3] (.int (σ a j.toNatClampNeg) :: st) σ ρ g τ Q := aw_ial m227 d227_35 rfl ht hj
theorem d227_36 : decode cX12_offer 36 = .ok (.iconst 1, 1) := by decide +kernel
theorem s227_36 {d : Nat} {st : List Value} {σ : am_I} {ρ : am_R} {g : am_J} {τ : am_T} {Q : am_Q} {x0 x1 x2 x3 : Value} : AW d 227 36 [x0, x1, x2, x3] (st) σ ρ g τ Q = AW d 227 37 [x0, x1, x2, x3] (.int 1 :: st) σ ρ g τ Q := aw_lc m227 d227_36 rfl rfl rfl
theorem d227_37 : decode cX12_offer 37 = .ok (.if_icmp .ne 6, 3) := by decide +kernel
theorem s227_37 {d : Nat} {st : List Value} {σ : am_I} {ρ : am_R} {g : am_J} {τ : am_T} {Q : am_Q} {x0 x1 x2 x3 : Value} {v w : Int32} : AW d 227 37 [x0, x1, x2, x3] (.int w :: .int v :: st) σ ρ g τ Q = if ¬ v = w then AW d 227 43 [x0, x1, x2, x3] (st) σ ρ g τ Q else AW d 227 40 [x0, x1, x2, x3] (st) σ ρ g τ Q := aw_br m227 d227_37 rfl rfl rfl
theorem d227_40 : decode cX12_offer 40 = .ok (.bipush (-4), 2) := by decide +kernel
theorem s227_40 {d : Nat} {st : List Value} {σ : am_I} {ρ : am_R} {g : am_J} {τ : am_T} {Q : am_Q} {x0 x1 x2 x3 : Value} : AW d 227 40 [x0, x1, x2, x3] (st) σ ρ g τ Q = AW d 227 42 [x0, x1, x2, x3] (.int (-4) :: st) σ ρ g τ Q := aw_lc m227 d227_40 rfl rfl rfl
theorem d227_42 : decode cX12_offer 42 = .ok (.ireturn, 1) := by decide +kernel
theorem s227_42 {d : Nat} {σ : am_I} {ρ : am_R} {g : am_J} {τ : am_T} {Q : am_Q} {x0 x1 x2 x3 : Value} {v : Int32} : AW d 227 42 [x0, x1, x2, x3] ([.int v]) σ ρ g τ Q = Q (some (.int v)) σ ρ g τ := aw_ri m227 d227_42 rfl
theorem d227_43 : decode cX12_offer 43 = .ok (.iconst 1, 1) := by decide +kernel
theorem s227_43 {d : Nat} {st : List Value} {σ : am_I} {ρ : am_R} {g : am_J} {τ : am_T} {Q : am_Q} {x0 x1 x2 x3 : Value} : AW d 227 43 [x0, x1, x2, x3] (st) σ ρ g τ Q = AW d 227 44 [x0, x1, x2, x3] (.int 1 :: st) σ ρ g τ Q := aw_lc m227 d227_43 rfl rfl rfl
theorem d227_44 : decode cX12_offer 44 = .ok (.istore_n 3, 1) := by decide +kernel
theorem s227_44 {d : Nat} {st : List Value} {σ : am_I} {ρ : am_R} {g : am_J} {τ : am_T} {Q : am_Q} {x0 x1 x3 : Value} {v : Int32} {u : Int32} : AW d 227 44 [x0, x1, .int u, x3] (.int v :: st) σ ρ g τ Q = AW d 227 45 [x0, x1, .int u, .int v] (st) σ ρ g τ Q := aw_lc m227 d227_44 rfl rfl rfl
theorem d227_45 : decode cX12_offer 45 = .ok (.iload_n 3, 1) := by decide +kernel
theorem s227_45 {d : Nat} {st : List Value} {σ : am_I} {ρ : am_R} {g : am_J} {τ : am_T} {Q : am_Q} {x0 x1 x2 : Value} {v : Int32} : AW d 227 45 [x0, x1, x2, .int v] (st) σ ρ g τ Q = AW d 227 46 [x0, x1, x2, .int v] (.int v :: st) σ ρ g τ Q := aw_lc m227 d227_45 rfl rfl rfl
theorem d227_46 : decode cX12_offer 46 = .ok (.sipush 999, 3) := by decide +kernel
theorem s227_46 {d : Nat} {st : List Value} {σ : am_I} {ρ : am_R} {g : am_J} {τ : am_T} {Q : am_Q} {x0 x1 x2 x3 : Value} : AW d 227 46 [x0, x1, x2, x3] (st) σ ρ g τ Q = AW d 227 49 [x0, x1, x2, x3] (.int 999 :: st) σ ρ g τ Q := aw_lc m227 d227_46 rfl rfl rfl
theorem d227_49 : decode cX12_offer 49 = .ok (.if_icmp .gt 21, 3) := by decide +kernel
theorem s227_49 {d : Nat} {st : List Value} {σ : am_I} {ρ : am_R} {g : am_J} {τ : am_T} {Q : am_Q} {x0 x1 x2 x3 : Value} {v w : Int32} : AW d 227 49 [x0, x1, x2, x3] (.int w :: .int v :: st) σ ρ g τ Q = if w < v then AW d 227 70 [x0, x1, x2, x3] (st) σ ρ g τ Q else AW d 227 52 [x0, x1, x2, x3] (st) σ ρ g τ Q := aw_br m227 d227_49 rfl rfl rfl
theorem d227_52 : decode cX12_offer 52 = .ok (.aload_n 0, 1) := by decide +kernel
theorem s227_52 {d : Nat} {st : List Value} {σ : am_I} {ρ : am_R} {g : am_J} {τ : am_T} {Q : am_Q} {x1 x2 x3 : Value} {v : Nat} : AW d 227 52 [.ref v, x1, x2, x3] (st) σ ρ g τ Q = AW d 227 53 [.ref v, x1, x2, x3] (.ref v :: st) σ ρ g τ Q := aw_lc m227 d227_52 rfl rfl rfl
theorem d227_53 : decode cX12_offer 53 = .ok (.iload_n 1, 1) := by decide +kernel
theorem s227_53 {d : Nat} {st : List Value} {σ : am_I} {ρ : am_R} {g : am_J} {τ : am_T} {Q : am_Q} {x0 x2 x3 : Value} {v : Int32} : AW d 227 53 [x0, .int v, x2, x3] (st) σ ρ g τ Q = AW d 227 54 [x0, .int v, x2, x3] (.int v :: st) σ ρ g τ Q := aw_lc m227 d227_53 rfl rfl rfl
theorem d227_54 : decode cX12_offer 54 = .ok (.iload_n 3, 1) := by decide +kernel
theorem s227_54 {d : Nat} {st : List Value} {σ : am_I} {ρ : am_R} {g : am_J} {τ : am_T} {Q : am_Q} {x0 x1 x2 : Value} {v : Int32} : AW d 227 54 [x0, x1, x2, .int v] (st) σ ρ g τ Q = AW d 227 55 [x0, x1, x2, .int v] (.int v :: st) σ ρ g τ Q := aw_lc m227 d227_54 rfl rfl rfl
theorem d227_55 : decode cX12_offer 55 = .ok (.iload_n 2, 1) := by decide +kernel
theorem s227_55 {d : Nat} {st : List Value} {σ : am_I} {ρ : am_R} {g : am_J} {τ : am_T} {Q : am_Q} {x0 x1 x3 : Value} {v : Int32} : AW d 227 55 [x0, x1, .int v, x3] (st) σ ρ g τ Q = AW d 227 56 [x0, x1, .int v, x3] (.int v :: st) σ ρ g τ Q := aw_lc m227 d227_55 rfl rfl rfl
theorem d227_56 : decode cX12_offer 56 = .ok (.invokevirtual 404, 3) := by decide +kernel
theorem s227_56 {d : Nat} {st : List Value} {σ : am_I} {ρ : am_R} {g : am_J} {τ : am_T} {Q : am_Q} {x0 x1 x2 x3 : Value} {p0 : Nat} {p1 : Int32} {p2 : Int32} {p3 : Int32} (ht : τ.1 p0 = 12) (hs : st.length ≤ 4) : AW (d + 1) 227 56 [x0, x1, x2, x3] (.int p3 :: .int p2 :: .int p1 :: .ref p0 :: st) σ ρ g τ Q = AW d 225 0 [.ref p0, .int p1, .int p2, .int p3] [] σ ρ g τ (fun r9 σ ρ g τ => AW (d + 1) 227 59 [x0, x1, x2, x3] (r9.toList ++ st) σ ρ g τ Q) := aw_cv m227 d227_56 rfl m225 rfl rfl (by decide) en225 ok225 rfl ht hs
theorem d227_59 : decode cX12_offer 59 = .ok (.ifCond .eq 5, 3) := by decide +kernel
theorem s227_59 {d : Nat} {st : List Value} {σ : am_I} {ρ : am_R} {g : am_J} {τ : am_T} {Q : am_Q} {x0 x1 x2 x3 : Value} {v : Int32} : AW d 227 59 [x0, x1, x2, x3] (.int v :: st) σ ρ g τ Q = if v = 0 then AW d 227 64 [x0, x1, x2, x3] (st) σ ρ g τ Q else AW d 227 62 [x0, x1, x2, x3] (st) σ ρ g τ Q := aw_br m227 d227_59 rfl rfl rfl
theorem d227_62 : decode cX12_offer 62 = .ok (.iload_n 3, 1) := by decide +kernel
theorem s227_62 {d : Nat} {st : List Value} {σ : am_I} {ρ : am_R} {g : am_J} {τ : am_T} {Q : am_Q} {x0 x1 x2 : Value} {v : Int32} : AW d 227 62 [x0, x1, x2, .int v] (st) σ ρ g τ Q = AW d 227 63 [x0, x1, x2, .int v] (.int v :: st) σ ρ g τ Q := aw_lc m227 d227_62 rfl rfl rfl
theorem d227_63 : decode cX12_offer 63 = .ok (.ireturn, 1) := by decide +kernel
theorem s227_63 {d : Nat} {σ : am_I} {ρ : am_R} {g : am_J} {τ : am_T} {Q : am_Q} {x0 x1 x2 x3 : Value} {v : Int32} : AW d 227 63 [x0, x1, x2, x3] ([.int v]) σ ρ g τ Q = Q (some (.int v)) σ ρ g τ := aw_ri m227 d227_63 rfl
theorem d227_64 : decode cX12_offer 64 = .ok (.iinc 3 1, 3) := by decide +kernel
theorem s227_64 {d : Nat} {st : List Value} {σ : am_I} {ρ : am_R} {g : am_J} {τ : am_T} {Q : am_Q} {x0 x1 : Value} {v : Int32} {u : Int32} : AW d 227 64 [x0, x1, .int u, .int v] (st) σ ρ g τ Q = AW d 227 67 [x0, x1, .int u, .int (v + 1)] (st) σ ρ g τ Q := aw_lc m227 d227_64 rfl rfl rfl
theorem d227_67 : decode cX12_offer 67 = .ok (.goto (-22), 3) := by decide +kernel
theorem s227_67 {d : Nat} {st : List Value} {σ : am_I} {ρ : am_R} {g : am_J} {τ : am_T} {Q : am_Q} {x0 x1 x2 x3 : Value} : AW d 227 67 [x0, x1, x2, x3] (st) σ ρ g τ Q = AW d 227 45 [x0, x1, x2, x3] (st) σ ρ g τ Q := aw_lc m227 d227_67 rfl rfl rfl
theorem d227_70 : decode cX12_offer 70 = .ok (.bipush (-3), 2) := by decide +kernel
theorem s227_70 {d : Nat} {st : List Value} {σ : am_I} {ρ : am_R} {g : am_J} {τ : am_T} {Q : am_Q} {x0 x1 x2 x3 : Value} : AW d 227 70 [x0, x1, x2, x3] (st) σ ρ g τ Q = AW d 227 72 [x0, x1, x2, x3] (.int (-3) :: st) σ ρ g τ Q := aw_lc m227 d227_70 rfl rfl rfl
theorem d227_72 : decode cX12_offer 72 = .ok (.ireturn, 1) := by decide +kernel
theorem s227_72 {d : Nat} {σ : am_I} {ρ : am_R} {g : am_J} {τ : am_T} {Q : am_Q} {x0 x1 x2 x3 : Value} {v : Int32} : AW d 227 72 [x0, x1, x2, x3] ([.int v]) σ ρ g τ Q = Q (some (.int v)) σ ρ g τ := aw_ri m227 d227_72 rfl
theorem d228_0 : decode cX12_railway 0 = .ok (.aload_n 0, 1) := by decide +kernel
theorem s228_0 {d : Nat} {st : List Value} {σ : am_I} {ρ : am_R} {g : am_J} {τ : am_T} {Q : am_Q} {x1 x2 x3 x4 : Value} {v : Nat} : AW d 228 0 [.ref v, x1, x2, x3, x4] (st) σ ρ g τ Q = AW d 228 1 [.ref v, x1, x2, x3, x4] (.ref v :: st) σ ρ g τ Q := aw_lc m228 d228_0 rfl rfl rfl
theorem d228_1 : decode cX12_railway 1 = .ok (.iconst 1, 1) := by decide +kernel
theorem s228_1 {d : Nat} {st : List Value} {σ : am_I} {ρ : am_R} {g : am_J} {τ : am_T} {Q : am_Q} {x0 x1 x2 x3 x4 : Value} : AW d 228 1 [x0, x1, x2, x3, x4] (st) σ ρ g τ Q = AW d 228 2 [x0, x1, x2, x3, x4] (.int 1 :: st) σ ρ g τ Q := aw_lc m228 d228_1 rfl rfl rfl
theorem d228_2 : decode cX12_railway 2 = .ok (.iload_n 1, 1) := by decide +kernel
theorem s228_2 {d : Nat} {st : List Value} {σ : am_I} {ρ : am_R} {g : am_J} {τ : am_T} {Q : am_Q} {x0 x2 x3 x4 : Value} {v : Int32} : AW d 228 2 [x0, .int v, x2, x3, x4] (st) σ ρ g τ Q = AW d 228 3 [x0, .int v, x2, x3, x4] (.int v :: st) σ ρ g τ Q := aw_lc m228 d228_2 rfl rfl rfl
theorem d228_3 : decode cX12_railway 3 = .ok (.invokevirtual 210, 3) := by decide +kernel
theorem s228_3 {d : Nat} {st : List Value} {σ : am_I} {ρ : am_R} {g : am_J} {τ : am_T} {Q : am_Q} {x0 x1 x2 x3 x4 : Value} {p0 : Nat} {p1 : Int32} {p2 : Int32} (ht : τ.1 p0 = 12) (hs : st.length ≤ 4) : AW (d + 1) 228 3 [x0, x1, x2, x3, x4] (.int p2 :: .int p1 :: .ref p0 :: st) σ ρ g τ Q = AW d 167 0 [.ref p0, .int p1, .int p2] [] σ ρ g τ (fun r9 σ ρ g τ => AW (d + 1) 228 6 [x0, x1, x2, x3, x4] (r9.toList ++ st) σ ρ g τ Q) := aw_cv m228 d228_3 rfl m167 rfl rfl (by decide) en167 ok167 rfl ht hs
theorem d228_6 : decode cX12_railway 6 = .ok (.ifCond .eq 24, 3) := by decide +kernel
theorem s228_6 {d : Nat} {st : List Value} {σ : am_I} {ρ : am_R} {g : am_J} {τ : am_T} {Q : am_Q} {x0 x1 x2 x3 x4 : Value} {v : Int32} : AW d 228 6 [x0, x1, x2, x3, x4] (.int v :: st) σ ρ g τ Q = if v = 0 then AW d 228 30 [x0, x1, x2, x3, x4] (st) σ ρ g τ Q else AW d 228 9 [x0, x1, x2, x3, x4] (st) σ ρ g τ Q := aw_br m228 d228_6 rfl rfl rfl
theorem d228_9 : decode cX12_railway 9 = .ok (.iload_n 2, 1) := by decide +kernel
theorem s228_9 {d : Nat} {st : List Value} {σ : am_I} {ρ : am_R} {g : am_J} {τ : am_T} {Q : am_Q} {x0 x1 x3 x4 : Value} {v : Int32} : AW d 228 9 [x0, x1, .int v, x3, x4] (st) σ ρ g τ Q = AW d 228 10 [x0, x1, .int v, x3, x4] (.int v :: st) σ ρ g τ Q := aw_lc m228 d228_9 rfl rfl rfl
theorem d228_10 : decode cX12_railway 10 = .ok (.iconst 0, 1) := by decide +kernel
theorem s228_10 {d : Nat} {st : List Value} {σ : am_I} {ρ : am_R} {g : am_J} {τ : am_T} {Q : am_Q} {x0 x1 x2 x3 x4 : Value} : AW d 228 10 [x0, x1, x2, x3, x4] (st) σ ρ g τ Q = AW d 228 11 [x0, x1, x2, x3, x4] (.int 0 :: st) σ ρ g τ Q := aw_lc m228 d228_10 rfl rfl rfl
theorem d228_11 : decode cX12_railway 11 = .ok (.sipush 400, 3) := by decide +kernel
theorem s228_11 {d : Nat} {st : List Value} {σ : am_I} {ρ : am_R} {g : am_J} {τ : am_T} {Q : am_Q} {x0 x1 x2 x3 x4 : Value} : AW d 228 11 [x0, x1, x2, x3, x4] (st) σ ρ g τ Q = AW d 228 14 [x0, x1, x2, x3, x4] (.int 400 :: st) σ ρ g τ Q := aw_lc m228 d228_11 rfl rfl rfl
theorem d228_14 : decode cX12_railway 14 = .ok (.invokestatic 194, 3) := by decide +kernel
theorem s228_14 {d : Nat} {st : List Value} {σ : am_I} {ρ : am_R} {g : am_J} {τ : am_T} {Q : am_Q} {x0 x1 x2 x3 x4 : Value} {p0 : Int32} {p1 : Int32} {p2 : Int32} (hs : st.length ≤ 4) : AW (d + 1) 228 14 [x0, x1, x2, x3, x4] (.int p2 :: .int p1 :: .int p0 :: st) σ ρ g τ Q = AW d 165 0 [.int p0, .int p1, .int p2] [] σ ρ g τ (fun r9 σ ρ g τ => AW (d + 1) 228 17 [x0, x1, x2, x3, x4] (r9.toList ++ st) σ ρ g τ Q) := aw_cs m228 d228_14 rfl (by simp only [List.length_cons]; omega) rfl rfl en165 ok165 rfl hs
theorem d228_17 : decode cX12_railway 17 = .ok (.ifCond .eq 13, 3) := by decide +kernel
theorem s228_17 {d : Nat} {st : List Value} {σ : am_I} {ρ : am_R} {g : am_J} {τ : am_T} {Q : am_Q} {x0 x1 x2 x3 x4 : Value} {v : Int32} : AW d 228 17 [x0, x1, x2, x3, x4] (.int v :: st) σ ρ g τ Q = if v = 0 then AW d 228 30 [x0, x1, x2, x3, x4] (st) σ ρ g τ Q else AW d 228 20 [x0, x1, x2, x3, x4] (st) σ ρ g τ Q := aw_br m228 d228_17 rfl rfl rfl
theorem d228_20 : decode cX12_railway 20 = .ok (.iload_n 3, 1) := by decide +kernel
theorem s228_20 {d : Nat} {st : List Value} {σ : am_I} {ρ : am_R} {g : am_J} {τ : am_T} {Q : am_Q} {x0 x1 x2 x4 : Value} {v : Int32} : AW d 228 20 [x0, x1, x2, .int v, x4] (st) σ ρ g τ Q = AW d 228 21 [x0, x1, x2, .int v, x4] (.int v :: st) σ ρ g τ Q := aw_lc m228 d228_20 rfl rfl rfl
theorem d228_21 : decode cX12_railway 21 = .ok (.iconst 1, 1) := by decide +kernel
theorem s228_21 {d : Nat} {st : List Value} {σ : am_I} {ρ : am_R} {g : am_J} {τ : am_T} {Q : am_Q} {x0 x1 x2 x3 x4 : Value} : AW d 228 21 [x0, x1, x2, x3, x4] (st) σ ρ g τ Q = AW d 228 22 [x0, x1, x2, x3, x4] (.int 1 :: st) σ ρ g τ Q := aw_lc m228 d228_21 rfl rfl rfl
theorem d228_22 : decode cX12_railway 22 = .ok (.bipush 99, 2) := by decide +kernel
theorem s228_22 {d : Nat} {st : List Value} {σ : am_I} {ρ : am_R} {g : am_J} {τ : am_T} {Q : am_Q} {x0 x1 x2 x3 x4 : Value} : AW d 228 22 [x0, x1, x2, x3, x4] (st) σ ρ g τ Q = AW d 228 24 [x0, x1, x2, x3, x4] (.int 99 :: st) σ ρ g τ Q := aw_lc m228 d228_22 rfl rfl rfl
theorem d228_24 : decode cX12_railway 24 = .ok (.invokestatic 194, 3) := by decide +kernel
theorem s228_24 {d : Nat} {st : List Value} {σ : am_I} {ρ : am_R} {g : am_J} {τ : am_T} {Q : am_Q} {x0 x1 x2 x3 x4 : Value} {p0 : Int32} {p1 : Int32} {p2 : Int32} (hs : st.length ≤ 4) : AW (d + 1) 228 24 [x0, x1, x2, x3, x4] (.int p2 :: .int p1 :: .int p0 :: st) σ ρ g τ Q = AW d 165 0 [.int p0, .int p1, .int p2] [] σ ρ g τ (fun r9 σ ρ g τ => AW (d + 1) 228 27 [x0, x1, x2, x3, x4] (r9.toList ++ st) σ ρ g τ Q) := aw_cs m228 d228_24 rfl (by simp only [List.length_cons]; omega) rfl rfl en165 ok165 rfl hs
theorem d228_27 : decode cX12_railway 27 = .ok (.ifCond .ne 5, 3) := by decide +kernel
theorem s228_27 {d : Nat} {st : List Value} {σ : am_I} {ρ : am_R} {g : am_J} {τ : am_T} {Q : am_Q} {x0 x1 x2 x3 x4 : Value} {v : Int32} : AW d 228 27 [x0, x1, x2, x3, x4] (.int v :: st) σ ρ g τ Q = if ¬ v = 0 then AW d 228 32 [x0, x1, x2, x3, x4] (st) σ ρ g τ Q else AW d 228 30 [x0, x1, x2, x3, x4] (st) σ ρ g τ Q := aw_br m228 d228_27 rfl rfl rfl
theorem d228_30 : decode cX12_railway 30 = .ok (.iconst (-1), 1) := by decide +kernel
theorem s228_30 {d : Nat} {st : List Value} {σ : am_I} {ρ : am_R} {g : am_J} {τ : am_T} {Q : am_Q} {x0 x1 x2 x3 x4 : Value} : AW d 228 30 [x0, x1, x2, x3, x4] (st) σ ρ g τ Q = AW d 228 31 [x0, x1, x2, x3, x4] (.int (-1) :: st) σ ρ g τ Q := aw_lc m228 d228_30 rfl rfl rfl
theorem d228_31 : decode cX12_railway 31 = .ok (.ireturn, 1) := by decide +kernel
theorem s228_31 {d : Nat} {σ : am_I} {ρ : am_R} {g : am_J} {τ : am_T} {Q : am_Q} {x0 x1 x2 x3 x4 : Value} {v : Int32} : AW d 228 31 [x0, x1, x2, x3, x4] ([.int v]) σ ρ g τ Q = Q (some (.int v)) σ ρ g τ := aw_ri m228 d228_31 rfl
theorem d228_32 : decode cX12_railway 32 = .ok (.aload_n 0, 1) := by decide +kernel
theorem s228_32 {d : Nat} {st : List Value} {σ : am_I} {ρ : am_R} {g : am_J} {τ : am_T} {Q : am_Q} {x1 x2 x3 x4 : Value} {v : Nat} : AW d 228 32 [.ref v, x1, x2, x3, x4] (st) σ ρ g τ Q = AW d 228 33 [.ref v, x1, x2, x3, x4] (.ref v :: st) σ ρ g τ Q := aw_lc m228 d228_32 rfl rfl rfl
theorem d228_33 : decode cX12_railway 33 = .ok (.getfield 9, 3) := by decide +kernel
theorem s228_33 {d : Nat} {st : List Value} {σ : am_I} {ρ : am_R} {g : am_J} {τ : am_T} {Q : am_Q} {x0 x1 x2 x3 x4 : Value} {a : Nat} (ht : τ.1 a = 12) : AW d 228 33 [x0, x1, x2, x3, x4] (.ref a :: st) σ ρ g τ Q = AW d 228 36 [x0, x1, x2, x3, x4] (va_rf (ρ a 0) :: st) σ ρ g τ Q := aw_gr m228 d228_33 rfl rfl rfl ht
theorem d228_36 : decode cX12_railway 36 = .ok (.iconst 4, 1) := by decide +kernel
theorem s228_36 {d : Nat} {st : List Value} {σ : am_I} {ρ : am_R} {g : am_J} {τ : am_T} {Q : am_Q} {x0 x1 x2 x3 x4 : Value} : AW d 228 36 [x0, x1, x2, x3, x4] (st) σ ρ g τ Q = AW d 228 37 [x0, x1, x2, x3, x4] (.int 4 :: st) σ ρ g τ Q := aw_lc m228 d228_36 rfl rfl rfl
theorem d228_37 : decode cX12_railway 37 = .ok (.iaload, 1) := by decide +kernel
theorem s228_37 {d : Nat} {st : List Value} {σ : am_I} {ρ : am_R} {g : am_J} {τ : am_T} {Q : am_Q} {x0 x1 x2 x3 x4 : Value} {a : Nat} {j : Int32} (ht : τ.1 a = 15) (hj : am_inb j (τ.2.1 a) = true) : AW d 228 37 [x0, x1, x2, x3, x4] (.int j :: .ref a :: st) σ ρ g τ Q = AW d 228 38 [x0, x1, x2, x3, x4] (.int (σ a j.toNatClampNeg) :: st) σ ρ g τ Q := aw_ial m228 d228_37 rfl ht hj
theorem d228_38 : decode cX12_railway 38 = .ok (.bipush 6, 2) := by decide +kernel
theorem s228_38 {d : Nat} {st : List Value} {σ : am_I} {ρ : am_R} {g : am_J} {τ : am_T} {Q : am_Q} {x0 x1 x2 x3 x4 : Value} : AW d 228 38 [x0, x1, x2, x3, x4] (st) σ ρ g τ Q = AW d 228 40 [x0, x1, x2, x3, x4] (.int 6 :: st) σ ρ g τ Q := aw_lc m228 d228_38 rfl rfl rfl
theorem d228_40 : decode cX12_railway 40 = .ok (.if_icmp .ne 6, 3) := by decide +kernel
theorem s228_40 {d : Nat} {st : List Value} {σ : am_I} {ρ : am_R} {g : am_J} {τ : am_T} {Q : am_Q} {x0 x1 x2 x3 x4 : Value} {v w : Int32} : AW d 228 40 [x0, x1, x2, x3, x4] (.int w :: .int v :: st) σ ρ g τ Q = if ¬ v = w then AW d 228 46 [x0, x1, x2, x3, x4] (st) σ ρ g τ Q else AW d 228 43 [x0, x1, x2, x3, x4] (st) σ ρ g τ Q := aw_br m228 d228_40 rfl rfl rfl
theorem d228_43 : decode cX12_railway 43 = .ok (.bipush (-2), 2) := by decide +kernel
theorem s228_43 {d : Nat} {st : List Value} {σ : am_I} {ρ : am_R} {g : am_J} {τ : am_T} {Q : am_Q} {x0 x1 x2 x3 x4 : Value} : AW d 228 43 [x0, x1, x2, x3, x4] (st) σ ρ g τ Q = AW d 228 45 [x0, x1, x2, x3, x4] (.int (-2) :: st) σ ρ g τ Q := aw_lc m228 d228_43 rfl rfl rfl
theorem d228_45 : decode cX12_railway 45 = .ok (.ireturn, 1) := by decide +kernel
theorem s228_45 {d : Nat} {σ : am_I} {ρ : am_R} {g : am_J} {τ : am_T} {Q : am_Q} {x0 x1 x2 x3 x4 : Value} {v : Int32} : AW d 228 45 [x0, x1, x2, x3, x4] ([.int v]) σ ρ g τ Q = Q (some (.int v)) σ ρ g τ := aw_ri m228 d228_45 rfl
theorem d228_46 : decode cX12_railway 46 = .ok (.aload_n 0, 1) := by decide +kernel
theorem s228_46 {d : Nat} {st : List Value} {σ : am_I} {ρ : am_R} {g : am_J} {τ : am_T} {Q : am_Q} {x1 x2 x3 x4 : Value} {v : Nat} : AW d 228 46 [.ref v, x1, x2, x3, x4] (st) σ ρ g τ Q = AW d 228 47 [.ref v, x1, x2, x3, x4] (.ref v :: st) σ ρ g τ Q := aw_lc m228 d228_46 rfl rfl rfl
theorem d228_47 : decode cX12_railway 47 = .ok (.getfield 9, 3) := by decide +kernel
theorem s228_47 {d : Nat} {st : List Value} {σ : am_I} {ρ : am_R} {g : am_J} {τ : am_T} {Q : am_Q} {x0 x1 x2 x3 x4 : Value} {a : Nat} (ht : τ.1 a = 12) : AW d 228 47 [x0, x1, x2, x3, x4] (.ref a :: st) σ ρ g τ Q = AW d 228 50 [x0, x1, x2, x3, x4] (va_rf (ρ a 0) :: st) σ ρ g τ Q := aw_gr m228 d228_47 rfl rfl rfl ht
theorem d228_50 : decode cX12_railway 50 = .ok (.iconst 4, 1) := by decide +kernel
theorem s228_50 {d : Nat} {st : List Value} {σ : am_I} {ρ : am_R} {g : am_J} {τ : am_T} {Q : am_Q} {x0 x1 x2 x3 x4 : Value} : AW d 228 50 [x0, x1, x2, x3, x4] (st) σ ρ g τ Q = AW d 228 51 [x0, x1, x2, x3, x4] (.int 4 :: st) σ ρ g τ Q := aw_lc m228 d228_50 rfl rfl rfl
theorem d228_51 : decode cX12_railway 51 = .ok (.iaload, 1) := by decide +kernel
theorem s228_51 {d : Nat} {st : List Value} {σ : am_I} {ρ : am_R} {g : am_J} {τ : am_T} {Q : am_Q} {x0 x1 x2 x3 x4 : Value} {a : Nat} {j : Int32} (ht : τ.1 a = 15) (hj : am_inb j (τ.2.1 a) = true) : AW d 228 51 [x0, x1, x2, x3, x4] (.int j :: .ref a :: st) σ ρ g τ Q = AW d 228 52 [x0, x1, x2, x3, x4] (.int (σ a j.toNatClampNeg) :: st) σ ρ g τ Q := aw_ial m228 d228_51 rfl ht hj
theorem d228_52 : decode cX12_railway 52 = .ok (.istore 4, 2) := by decide +kernel
theorem s228_52 {d : Nat} {st : List Value} {σ : am_I} {ρ : am_R} {g : am_J} {τ : am_T} {Q : am_Q} {x0 x1 x2 x4 : Value} {v : Int32} {u : Int32} : AW d 228 52 [x0, x1, x2, .int u, x4] (.int v :: st) σ ρ g τ Q = AW d 228 54 [x0, x1, x2, .int u, .int v] (st) σ ρ g τ Q := aw_lc m228 d228_52 rfl rfl rfl
theorem d228_54 : decode cX12_railway 54 = .ok (.aload_n 0, 1) := by decide +kernel
theorem s228_54 {d : Nat} {st : List Value} {σ : am_I} {ρ : am_R} {g : am_J} {τ : am_T} {Q : am_Q} {x1 x2 x3 x4 : Value} {v : Nat} : AW d 228 54 [.ref v, x1, x2, x3, x4] (st) σ ρ g τ Q = AW d 228 55 [.ref v, x1, x2, x3, x4] (.ref v :: st) σ ρ g τ Q := aw_lc m228 d228_54 rfl rfl rfl
theorem d228_55 : decode cX12_railway 55 = .ok (.getfield 91, 3) := by decide +kernel
theorem s228_55 {d : Nat} {st : List Value} {σ : am_I} {ρ : am_R} {g : am_J} {τ : am_T} {Q : am_Q} {x0 x1 x2 x3 x4 : Value} {a : Nat} (ht : τ.1 a = 12) : AW d 228 55 [x0, x1, x2, x3, x4] (.ref a :: st) σ ρ g τ Q = AW d 228 58 [x0, x1, x2, x3, x4] (va_rf (ρ a 27) :: st) σ ρ g τ Q := aw_gr m228 d228_55 rfl rfl rfl ht
theorem d228_58 : decode cX12_railway 58 = .ok (.iload 4, 2) := by decide +kernel
theorem s228_58 {d : Nat} {st : List Value} {σ : am_I} {ρ : am_R} {g : am_J} {τ : am_T} {Q : am_Q} {x0 x1 x2 x3 : Value} {v : Int32} : AW d 228 58 [x0, x1, x2, x3, .int v] (st) σ ρ g τ Q = AW d 228 60 [x0, x1, x2, x3, .int v] (.int v :: st) σ ρ g τ Q := aw_lc m228 d228_58 rfl rfl rfl
theorem d228_60 : decode cX12_railway 60 = .ok (.iload_n 1, 1) := by decide +kernel
theorem s228_60 {d : Nat} {st : List Value} {σ : am_I} {ρ : am_R} {g : am_J} {τ : am_T} {Q : am_Q} {x0 x2 x3 x4 : Value} {v : Int32} : AW d 228 60 [x0, .int v, x2, x3, x4] (st) σ ρ g τ Q = AW d 228 61 [x0, .int v, x2, x3, x4] (.int v :: st) σ ρ g τ Q := aw_lc m228 d228_60 rfl rfl rfl
theorem d228_61 : decode cX12_railway 61 = .ok (.iastore, 1) := by decide +kernel
theorem s228_61 {d : Nat} {st : List Value} {σ : am_I} {ρ : am_R} {g : am_J} {τ : am_T} {Q : am_Q} {x0 x1 x2 x3 x4 : Value} {a : Nat} {j v : Int32} (ht : τ.1 a = 15) (ha : a < am_BG) (hj : am_inb j (τ.2.1 a) = true) : AW d 228 61 [x0, x1, x2, x3, x4] (.int v :: .int j :: .ref a :: st) σ ρ g τ Q = AW d 228 62 [x0, x1, x2, x3, x4] (st) (am_u σ a j.toNatClampNeg v) ρ g τ Q := aw_ias m228 d228_61 rfl ht ha hj
theorem d228_62 : decode cX12_railway 62 = .ok (.aload_n 0, 1) := by decide +kernel
theorem s228_62 {d : Nat} {st : List Value} {σ : am_I} {ρ : am_R} {g : am_J} {τ : am_T} {Q : am_Q} {x1 x2 x3 x4 : Value} {v : Nat} : AW d 228 62 [.ref v, x1, x2, x3, x4] (st) σ ρ g τ Q = AW d 228 63 [.ref v, x1, x2, x3, x4] (.ref v :: st) σ ρ g τ Q := aw_lc m228 d228_62 rfl rfl rfl
theorem d228_63 : decode cX12_railway 63 = .ok (.getfield 94, 3) := by decide +kernel
theorem s228_63 {d : Nat} {st : List Value} {σ : am_I} {ρ : am_R} {g : am_J} {τ : am_T} {Q : am_Q} {x0 x1 x2 x3 x4 : Value} {a : Nat} (ht : τ.1 a = 12) : AW d 228 63 [x0, x1, x2, x3, x4] (.ref a :: st) σ ρ g τ Q = AW d 228 66 [x0, x1, x2, x3, x4] (va_rf (ρ a 28) :: st) σ ρ g τ Q := aw_gr m228 d228_63 rfl rfl rfl ht
theorem d228_66 : decode cX12_railway 66 = .ok (.iload 4, 2) := by decide +kernel
theorem s228_66 {d : Nat} {st : List Value} {σ : am_I} {ρ : am_R} {g : am_J} {τ : am_T} {Q : am_Q} {x0 x1 x2 x3 : Value} {v : Int32} : AW d 228 66 [x0, x1, x2, x3, .int v] (st) σ ρ g τ Q = AW d 228 68 [x0, x1, x2, x3, .int v] (.int v :: st) σ ρ g τ Q := aw_lc m228 d228_66 rfl rfl rfl
theorem d228_68 : decode cX12_railway 68 = .ok (.iload_n 2, 1) := by decide +kernel
theorem s228_68 {d : Nat} {st : List Value} {σ : am_I} {ρ : am_R} {g : am_J} {τ : am_T} {Q : am_Q} {x0 x1 x3 x4 : Value} {v : Int32} : AW d 228 68 [x0, x1, .int v, x3, x4] (st) σ ρ g τ Q = AW d 228 69 [x0, x1, .int v, x3, x4] (.int v :: st) σ ρ g τ Q := aw_lc m228 d228_68 rfl rfl rfl
theorem d228_69 : decode cX12_railway 69 = .ok (.iastore, 1) := by decide +kernel
theorem s228_69 {d : Nat} {st : List Value} {σ : am_I} {ρ : am_R} {g : am_J} {τ : am_T} {Q : am_Q} {x0 x1 x2 x3 x4 : Value} {a : Nat} {j v : Int32} (ht : τ.1 a = 15) (ha : a < am_BG) (hj : am_inb j (τ.2.1 a) = true) : AW d 228 69 [x0, x1, x2, x3, x4] (.int v :: .int j :: .ref a :: st) σ ρ g τ Q = AW d 228 70 [x0, x1, x2, x3, x4] (st) (am_u σ a j.toNatClampNeg v) ρ g τ Q := aw_ias m228 d228_69 rfl ht ha hj
theorem d228_70 : decode cX12_railway 70 = .ok (.aload_n 0, 1) := by decide +kernel
theorem s228_70 {d : Nat} {st : List Value} {σ : am_I} {ρ : am_R} {g : am_J} {τ : am_T} {Q : am_Q} {x1 x2 x3 x4 : Value} {v : Nat} : AW d 228 70 [.ref v, x1, x2, x3, x4] (st) σ ρ g τ Q = AW d 228 71 [.ref v, x1, x2, x3, x4] (.ref v :: st) σ ρ g τ Q := aw_lc m228 d228_70 rfl rfl rfl
theorem d228_71 : decode cX12_railway 71 = .ok (.getfield 97, 3) := by decide +kernel
theorem s228_71 {d : Nat} {st : List Value} {σ : am_I} {ρ : am_R} {g : am_J} {τ : am_T} {Q : am_Q} {x0 x1 x2 x3 x4 : Value} {a : Nat} (ht : τ.1 a = 12) : AW d 228 71 [x0, x1, x2, x3, x4] (.ref a :: st) σ ρ g τ Q = AW d 228 74 [x0, x1, x2, x3, x4] (va_rf (ρ a 29) :: st) σ ρ g τ Q := aw_gr m228 d228_71 rfl rfl rfl ht
theorem d228_74 : decode cX12_railway 74 = .ok (.iload 4, 2) := by decide +kernel
theorem s228_74 {d : Nat} {st : List Value} {σ : am_I} {ρ : am_R} {g : am_J} {τ : am_T} {Q : am_Q} {x0 x1 x2 x3 : Value} {v : Int32} : AW d 228 74 [x0, x1, x2, x3, .int v] (st) σ ρ g τ Q = AW d 228 76 [x0, x1, x2, x3, .int v] (.int v :: st) σ ρ g τ Q := aw_lc m228 d228_74 rfl rfl rfl
theorem d228_76 : decode cX12_railway 76 = .ok (.iload_n 3, 1) := by decide +kernel
theorem s228_76 {d : Nat} {st : List Value} {σ : am_I} {ρ : am_R} {g : am_J} {τ : am_T} {Q : am_Q} {x0 x1 x2 x4 : Value} {v : Int32} : AW d 228 76 [x0, x1, x2, .int v, x4] (st) σ ρ g τ Q = AW d 228 77 [x0, x1, x2, .int v, x4] (.int v :: st) σ ρ g τ Q := aw_lc m228 d228_76 rfl rfl rfl
theorem d228_77 : decode cX12_railway 77 = .ok (.iastore, 1) := by decide +kernel
theorem s228_77 {d : Nat} {st : List Value} {σ : am_I} {ρ : am_R} {g : am_J} {τ : am_T} {Q : am_Q} {x0 x1 x2 x3 x4 : Value} {a : Nat} {j v : Int32} (ht : τ.1 a = 15) (ha : a < am_BG) (hj : am_inb j (τ.2.1 a) = true) : AW d 228 77 [x0, x1, x2, x3, x4] (.int v :: .int j :: .ref a :: st) σ ρ g τ Q = AW d 228 78 [x0, x1, x2, x3, x4] (st) (am_u σ a j.toNatClampNeg v) ρ g τ Q := aw_ias m228 d228_77 rfl ht ha hj
theorem d228_78 : decode cX12_railway 78 = .ok (.aload_n 0, 1) := by decide +kernel
theorem s228_78 {d : Nat} {st : List Value} {σ : am_I} {ρ : am_R} {g : am_J} {τ : am_T} {Q : am_Q} {x1 x2 x3 x4 : Value} {v : Nat} : AW d 228 78 [.ref v, x1, x2, x3, x4] (st) σ ρ g τ Q = AW d 228 79 [.ref v, x1, x2, x3, x4] (.ref v :: st) σ ρ g τ Q := aw_lc m228 d228_78 rfl rfl rfl
theorem d228_79 : decode cX12_railway 79 = .ok (.getfield 9, 3) := by decide +kernel
theorem s228_79 {d : Nat} {st : List Value} {σ : am_I} {ρ : am_R} {g : am_J} {τ : am_T} {Q : am_Q} {x0 x1 x2 x3 x4 : Value} {a : Nat} (ht : τ.1 a = 12) : AW d 228 79 [x0, x1, x2, x3, x4] (.ref a :: st) σ ρ g τ Q = AW d 228 82 [x0, x1, x2, x3, x4] (va_rf (ρ a 0) :: st) σ ρ g τ Q := aw_gr m228 d228_79 rfl rfl rfl ht
theorem d228_82 : decode cX12_railway 82 = .ok (.iconst 4, 1) := by decide +kernel
theorem s228_82 {d : Nat} {st : List Value} {σ : am_I} {ρ : am_R} {g : am_J} {τ : am_T} {Q : am_Q} {x0 x1 x2 x3 x4 : Value} : AW d 228 82 [x0, x1, x2, x3, x4] (st) σ ρ g τ Q = AW d 228 83 [x0, x1, x2, x3, x4] (.int 4 :: st) σ ρ g τ Q := aw_lc m228 d228_82 rfl rfl rfl
theorem d228_83 : decode cX12_railway 83 = .ok (.dup2, 1) := by decide +kernel
theorem s228_83 {d : Nat} {st : List Value} {σ : am_I} {ρ : am_R} {g : am_J} {τ : am_T} {Q : am_Q} {x0 x1 x2 x3 x4 : Value} {v : Int32} {w : Nat} : AW d 228 83 [x0, x1, x2, x3, x4] (.int v :: .ref w :: st) σ ρ g τ Q = AW d 228 84 [x0, x1, x2, x3, x4] (.int v :: .ref w :: .int v :: .ref w :: st) σ ρ g τ Q := aw_lc m228 d228_83 rfl rfl rfl
theorem d228_84 : decode cX12_railway 84 = .ok (.iaload, 1) := by decide +kernel
theorem s228_84 {d : Nat} {st : List Value} {σ : am_I} {ρ : am_R} {g : am_J} {τ : am_T} {Q : am_Q} {x0 x1 x2 x3 x4 : Value} {a : Nat} {j : Int32} (ht : τ.1 a = 15) (hj : am_inb j (τ.2.1 a) = true) : AW d 228 84 [x0, x1, x2, x3, x4] (.int j :: .ref a :: st) σ ρ g τ Q = AW d 228 85 [x0, x1, x2, x3, x4] (.int (σ a j.toNatClampNeg) :: st) σ ρ g τ Q := aw_ial m228 d228_84 rfl ht hj
theorem d228_85 : decode cX12_railway 85 = .ok (.iconst 1, 1) := by decide +kernel
theorem s228_85 {d : Nat} {st : List Value} {σ : am_I} {ρ : am_R} {g : am_J} {τ : am_T} {Q : am_Q} {x0 x1 x2 x3 x4 : Value} : AW d 228 85 [x0, x1, x2, x3, x4] (st) σ ρ g τ Q = AW d 228 86 [x0, x1, x2, x3, x4] (.int 1 :: st) σ ρ g τ Q := aw_lc m228 d228_85 rfl rfl rfl
theorem d228_86 : decode cX12_railway 86 = .ok (.iadd, 1) := by decide +kernel
theorem s228_86 {d : Nat} {st : List Value} {σ : am_I} {ρ : am_R} {g : am_J} {τ : am_T} {Q : am_Q} {x0 x1 x2 x3 x4 : Value} {v w : Int32} : AW d 228 86 [x0, x1, x2, x3, x4] (.int w :: .int v :: st) σ ρ g τ Q = AW d 228 87 [x0, x1, x2, x3, x4] (.int (v + w) :: st) σ ρ g τ Q := aw_lc m228 d228_86 rfl rfl rfl
theorem d228_87 : decode cX12_railway 87 = .ok (.iastore, 1) := by decide +kernel
theorem s228_87 {d : Nat} {st : List Value} {σ : am_I} {ρ : am_R} {g : am_J} {τ : am_T} {Q : am_Q} {x0 x1 x2 x3 x4 : Value} {a : Nat} {j v : Int32} (ht : τ.1 a = 15) (ha : a < am_BG) (hj : am_inb j (τ.2.1 a) = true) : AW d 228 87 [x0, x1, x2, x3, x4] (.int v :: .int j :: .ref a :: st) σ ρ g τ Q = AW d 228 88 [x0, x1, x2, x3, x4] (st) (am_u σ a j.toNatClampNeg v) ρ g τ Q := aw_ias m228 d228_87 rfl ht ha hj
theorem d228_88 : decode cX12_railway 88 = .ok (.iload 4, 2) := by decide +kernel
theorem s228_88 {d : Nat} {st : List Value} {σ : am_I} {ρ : am_R} {g : am_J} {τ : am_T} {Q : am_Q} {x0 x1 x2 x3 : Value} {v : Int32} : AW d 228 88 [x0, x1, x2, x3, .int v] (st) σ ρ g τ Q = AW d 228 90 [x0, x1, x2, x3, .int v] (.int v :: st) σ ρ g τ Q := aw_lc m228 d228_88 rfl rfl rfl
theorem d228_90 : decode cX12_railway 90 = .ok (.ireturn, 1) := by decide +kernel
theorem s228_90 {d : Nat} {σ : am_I} {ρ : am_R} {g : am_J} {τ : am_T} {Q : am_Q} {x0 x1 x2 x3 x4 : Value} {v : Int32} : AW d 228 90 [x0, x1, x2, x3, x4] ([.int v]) σ ρ g τ Q = Q (some (.int v)) σ ρ g τ := aw_ri m228 d228_90 rfl
theorem d229_0 : decode cX12_earns 0 = .ok (.aload_n 0, 1) := by decide +kernel
theorem s229_0 {d : Nat} {st : List Value} {σ : am_I} {ρ : am_R} {g : am_J} {τ : am_T} {Q : am_Q} {x1 x2 x3 x4 x5 x6 : Value} {v : Nat} : AW d 229 0 [.ref v, x1, x2, x3, x4, x5, x6] (st) σ ρ g τ Q = AW d 229 1 [.ref v, x1, x2, x3, x4, x5, x6] (.ref v :: st) σ ρ g τ Q := aw_lc m229 d229_0 rfl rfl rfl
theorem d229_1 : decode cX12_earns 1 = .ok (.getfield 91, 3) := by decide +kernel
theorem s229_1 {d : Nat} {st : List Value} {σ : am_I} {ρ : am_R} {g : am_J} {τ : am_T} {Q : am_Q} {x0 x1 x2 x3 x4 x5 x6 : Value} {a : Nat} (ht : τ.1 a = 12) : AW d 229 1 [x0, x1, x2, x3, x4, x5, x6] (.ref a :: st) σ ρ g τ Q = AW d 229 4 [x0, x1, x2, x3, x4, x5, x6] (va_rf (ρ a 27) :: st) σ ρ g τ Q := aw_gr m229 d229_1 rfl rfl rfl ht
theorem d229_4 : decode cX12_earns 4 = .ok (.iload_n 1, 1) := by decide +kernel
theorem s229_4 {d : Nat} {st : List Value} {σ : am_I} {ρ : am_R} {g : am_J} {τ : am_T} {Q : am_Q} {x0 x2 x3 x4 x5 x6 : Value} {v : Int32} : AW d 229 4 [x0, .int v, x2, x3, x4, x5, x6] (st) σ ρ g τ Q = AW d 229 5 [x0, .int v, x2, x3, x4, x5, x6] (.int v :: st) σ ρ g τ Q := aw_lc m229 d229_4 rfl rfl rfl
theorem d229_5 : decode cX12_earns 5 = .ok (.iaload, 1) := by decide +kernel
theorem s229_5 {d : Nat} {st : List Value} {σ : am_I} {ρ : am_R} {g : am_J} {τ : am_T} {Q : am_Q} {x0 x1 x2 x3 x4 x5 x6 : Value} {a : Nat} {j : Int32} (ht : τ.1 a = 15) (hj : am_inb j (τ.2.1 a) = true) : AW d 229 5 [x0, x1, x2, x3, x4, x5, x6] (.int j :: .ref a :: st) σ ρ g τ Q = AW d 229 6 [x0, x1, x2, x3, x4, x5, x6] (.int (σ a j.toNatClampNeg) :: st) σ ρ g τ Q := aw_ial m229 d229_5 rfl ht hj
theorem d229_6 : decode cX12_earns 6 = .ok (.istore_n 3, 1) := by decide +kernel
theorem s229_6 {d : Nat} {st : List Value} {σ : am_I} {ρ : am_R} {g : am_J} {τ : am_T} {Q : am_Q} {x0 x1 x3 x4 x5 x6 : Value} {v : Int32} {u : Int32} : AW d 229 6 [x0, x1, .int u, x3, x4, x5, x6] (.int v :: st) σ ρ g τ Q = AW d 229 7 [x0, x1, .int u, .int v, x4, x5, x6] (st) σ ρ g τ Q := aw_lc m229 d229_6 rfl rfl rfl
theorem d229_7 : decode cX12_earns 7 = .ok (.aload_n 0, 1) := by decide +kernel
theorem s229_7 {d : Nat} {st : List Value} {σ : am_I} {ρ : am_R} {g : am_J} {τ : am_T} {Q : am_Q} {x1 x2 x3 x4 x5 x6 : Value} {v : Nat} : AW d 229 7 [.ref v, x1, x2, x3, x4, x5, x6] (st) σ ρ g τ Q = AW d 229 8 [.ref v, x1, x2, x3, x4, x5, x6] (.ref v :: st) σ ρ g τ Q := aw_lc m229 d229_7 rfl rfl rfl
theorem d229_8 : decode cX12_earns 8 = .ok (.getfield 22, 3) := by decide +kernel
theorem s229_8 {d : Nat} {st : List Value} {σ : am_I} {ρ : am_R} {g : am_J} {τ : am_T} {Q : am_Q} {x0 x1 x2 x3 x4 x5 x6 : Value} {a : Nat} (ht : τ.1 a = 12) : AW d 229 8 [x0, x1, x2, x3, x4, x5, x6] (.ref a :: st) σ ρ g τ Q = AW d 229 11 [x0, x1, x2, x3, x4, x5, x6] (va_rf (ρ a 4) :: st) σ ρ g τ Q := aw_gr m229 d229_8 rfl rfl rfl ht
theorem d229_11 : decode cX12_earns 11 = .ok (.iconst 3, 1) := by decide +kernel
theorem s229_11 {d : Nat} {st : List Value} {σ : am_I} {ρ : am_R} {g : am_J} {τ : am_T} {Q : am_Q} {x0 x1 x2 x3 x4 x5 x6 : Value} : AW d 229 11 [x0, x1, x2, x3, x4, x5, x6] (st) σ ρ g τ Q = AW d 229 12 [x0, x1, x2, x3, x4, x5, x6] (.int 3 :: st) σ ρ g τ Q := aw_lc m229 d229_11 rfl rfl rfl
theorem d229_12 : decode cX12_earns 12 = .ok (.iload_n 3, 1) := by decide +kernel
theorem s229_12 {d : Nat} {st : List Value} {σ : am_I} {ρ : am_R} {g : am_J} {τ : am_T} {Q : am_Q} {x0 x1 x2 x4 x5 x6 : Value} {v : Int32} : AW d 229 12 [x0, x1, x2, .int v, x4, x5, x6] (st) σ ρ g τ Q = AW d 229 13 [x0, x1, x2, .int v, x4, x5, x6] (.int v :: st) σ ρ g τ Q := aw_lc m229 d229_12 rfl rfl rfl
theorem d229_13 : decode cX12_earns 13 = .ok (.imul, 1) := by decide +kernel
theorem s229_13 {d : Nat} {st : List Value} {σ : am_I} {ρ : am_R} {g : am_J} {τ : am_T} {Q : am_Q} {x0 x1 x2 x3 x4 x5 x6 : Value} {v w : Int32} : AW d 229 13 [x0, x1, x2, x3, x4, x5, x6] (.int w :: .int v :: st) σ ρ g τ Q = AW d 229 14 [x0, x1, x2, x3, x4, x5, x6] (.int (v * w) :: st) σ ρ g τ Q := aw_lc m229 d229_13 rfl rfl rfl
theorem d229_14 : decode cX12_earns 14 = .ok (.iaload, 1) := by decide +kernel
theorem s229_14 {d : Nat} {st : List Value} {σ : am_I} {ρ : am_R} {g : am_J} {τ : am_T} {Q : am_Q} {x0 x1 x2 x3 x4 x5 x6 : Value} {a : Nat} {j : Int32} (ht : τ.1 a = 15) (hj : am_inb j (τ.2.1 a) = true) : AW d 229 14 [x0, x1, x2, x3, x4, x5, x6] (.int j :: .ref a :: st) σ ρ g τ Q = AW d 229 15 [x0, x1, x2, x3, x4, x5, x6] (.int (σ a j.toNatClampNeg) :: st) σ ρ g τ Q := aw_ial m229 d229_14 rfl ht hj
theorem d229_15 : decode cX12_earns 15 = .ok (.aload_n 0, 1) := by decide +kernel
theorem s229_15 {d : Nat} {st : List Value} {σ : am_I} {ρ : am_R} {g : am_J} {τ : am_T} {Q : am_Q} {x1 x2 x3 x4 x5 x6 : Value} {v : Nat} : AW d 229 15 [.ref v, x1, x2, x3, x4, x5, x6] (st) σ ρ g τ Q = AW d 229 16 [.ref v, x1, x2, x3, x4, x5, x6] (.ref v :: st) σ ρ g τ Q := aw_lc m229 d229_15 rfl rfl rfl
theorem d229_16 : decode cX12_earns 16 = .ok (.getfield 22, 3) := by decide +kernel
theorem s229_16 {d : Nat} {st : List Value} {σ : am_I} {ρ : am_R} {g : am_J} {τ : am_T} {Q : am_Q} {x0 x1 x2 x3 x4 x5 x6 : Value} {a : Nat} (ht : τ.1 a = 12) : AW d 229 16 [x0, x1, x2, x3, x4, x5, x6] (.ref a :: st) σ ρ g τ Q = AW d 229 19 [x0, x1, x2, x3, x4, x5, x6] (va_rf (ρ a 4) :: st) σ ρ g τ Q := aw_gr m229 d229_16 rfl rfl rfl ht
theorem d229_19 : decode cX12_earns 19 = .ok (.iconst 3, 1) := by decide +kernel
theorem s229_19 {d : Nat} {st : List Value} {σ : am_I} {ρ : am_R} {g : am_J} {τ : am_T} {Q : am_Q} {x0 x1 x2 x3 x4 x5 x6 : Value} : AW d 229 19 [x0, x1, x2, x3, x4, x5, x6] (st) σ ρ g τ Q = AW d 229 20 [x0, x1, x2, x3, x4, x5, x6] (.int 3 :: st) σ ρ g τ Q := aw_lc m229 d229_19 rfl rfl rfl
theorem d229_20 : decode cX12_earns 20 = .ok (.iload_n 3, 1) := by decide +kernel
theorem s229_20 {d : Nat} {st : List Value} {σ : am_I} {ρ : am_R} {g : am_J} {τ : am_T} {Q : am_Q} {x0 x1 x2 x4 x5 x6 : Value} {v : Int32} : AW d 229 20 [x0, x1, x2, .int v, x4, x5, x6] (st) σ ρ g τ Q = AW d 229 21 [x0, x1, x2, .int v, x4, x5, x6] (.int v :: st) σ ρ g τ Q := aw_lc m229 d229_20 rfl rfl rfl
theorem d229_21 : decode cX12_earns 21 = .ok (.imul, 1) := by decide +kernel
theorem s229_21 {d : Nat} {st : List Value} {σ : am_I} {ρ : am_R} {g : am_J} {τ : am_T} {Q : am_Q} {x0 x1 x2 x3 x4 x5 x6 : Value} {v w : Int32} : AW d 229 21 [x0, x1, x2, x3, x4, x5, x6] (.int w :: .int v :: st) σ ρ g τ Q = AW d 229 22 [x0, x1, x2, x3, x4, x5, x6] (.int (v * w) :: st) σ ρ g τ Q := aw_lc m229 d229_21 rfl rfl rfl
theorem d229_22 : decode cX12_earns 22 = .ok (.iconst 1, 1) := by decide +kernel
theorem s229_22 {d : Nat} {st : List Value} {σ : am_I} {ρ : am_R} {g : am_J} {τ : am_T} {Q : am_Q} {x0 x1 x2 x3 x4 x5 x6 : Value} : AW d 229 22 [x0, x1, x2, x3, x4, x5, x6] (st) σ ρ g τ Q = AW d 229 23 [x0, x1, x2, x3, x4, x5, x6] (.int 1 :: st) σ ρ g τ Q := aw_lc m229 d229_22 rfl rfl rfl
theorem d229_23 : decode cX12_earns 23 = .ok (.iadd, 1) := by decide +kernel
theorem s229_23 {d : Nat} {st : List Value} {σ : am_I} {ρ : am_R} {g : am_J} {τ : am_T} {Q : am_Q} {x0 x1 x2 x3 x4 x5 x6 : Value} {v w : Int32} : AW d 229 23 [x0, x1, x2, x3, x4, x5, x6] (.int w :: .int v :: st) σ ρ g τ Q = AW d 229 24 [x0, x1, x2, x3, x4, x5, x6] (.int (v + w) :: st) σ ρ g τ Q := aw_lc m229 d229_23 rfl rfl rfl
theorem d229_24 : decode cX12_earns 24 = .ok (.iaload, 1) := by decide +kernel
theorem s229_24 {d : Nat} {st : List Value} {σ : am_I} {ρ : am_R} {g : am_J} {τ : am_T} {Q : am_Q} {x0 x1 x2 x3 x4 x5 x6 : Value} {a : Nat} {j : Int32} (ht : τ.1 a = 15) (hj : am_inb j (τ.2.1 a) = true) : AW d 229 24 [x0, x1, x2, x3, x4, x5, x6] (.int j :: .ref a :: st) σ ρ g τ Q = AW d 229 25 [x0, x1, x2, x3, x4, x5, x6] (.int (σ a j.toNatClampNeg) :: st) σ ρ g τ Q := aw_ial m229 d229_24 rfl ht hj
theorem d229_25 : decode cX12_earns 25 = .ok (.iadd, 1) := by decide +kernel
theorem s229_25 {d : Nat} {st : List Value} {σ : am_I} {ρ : am_R} {g : am_J} {τ : am_T} {Q : am_Q} {x0 x1 x2 x3 x4 x5 x6 : Value} {v w : Int32} : AW d 229 25 [x0, x1, x2, x3, x4, x5, x6] (.int w :: .int v :: st) σ ρ g τ Q = AW d 229 26 [x0, x1, x2, x3, x4, x5, x6] (.int (v + w) :: st) σ ρ g τ Q := aw_lc m229 d229_25 rfl rfl rfl
theorem d229_26 : decode cX12_earns 26 = .ok (.aload_n 0, 1) := by decide +kernel
theorem s229_26 {d : Nat} {st : List Value} {σ : am_I} {ρ : am_R} {g : am_J} {τ : am_T} {Q : am_Q} {x1 x2 x3 x4 x5 x6 : Value} {v : Nat} : AW d 229 26 [.ref v, x1, x2, x3, x4, x5, x6] (st) σ ρ g τ Q = AW d 229 27 [.ref v, x1, x2, x3, x4, x5, x6] (.ref v :: st) σ ρ g τ Q := aw_lc m229 d229_26 rfl rfl rfl
theorem d229_27 : decode cX12_earns 27 = .ok (.getfield 22, 3) := by decide +kernel
theorem s229_27 {d : Nat} {st : List Value} {σ : am_I} {ρ : am_R} {g : am_J} {τ : am_T} {Q : am_Q} {x0 x1 x2 x3 x4 x5 x6 : Value} {a : Nat} (ht : τ.1 a = 12) : AW d 229 27 [x0, x1, x2, x3, x4, x5, x6] (.ref a :: st) σ ρ g τ Q = AW d 229 30 [x0, x1, x2, x3, x4, x5, x6] (va_rf (ρ a 4) :: st) σ ρ g τ Q := aw_gr m229 d229_27 rfl rfl rfl ht
theorem d229_30 : decode cX12_earns 30 = .ok (.iconst 3, 1) := by decide +kernel
theorem s229_30 {d : Nat} {st : List Value} {σ : am_I} {ρ : am_R} {g : am_J} {τ : am_T} {Q : am_Q} {x0 x1 x2 x3 x4 x5 x6 : Value} : AW d 229 30 [x0, x1, x2, x3, x4, x5, x6] (st) σ ρ g τ Q = AW d 229 31 [x0, x1, x2, x3, x4, x5, x6] (.int 3 :: st) σ ρ g τ Q := aw_lc m229 d229_30 rfl rfl rfl
theorem d229_31 : decode cX12_earns 31 = .ok (.iload_n 3, 1) := by decide +kernel
theorem s229_31 {d : Nat} {st : List Value} {σ : am_I} {ρ : am_R} {g : am_J} {τ : am_T} {Q : am_Q} {x0 x1 x2 x4 x5 x6 : Value} {v : Int32} : AW d 229 31 [x0, x1, x2, .int v, x4, x5, x6] (st) σ ρ g τ Q = AW d 229 32 [x0, x1, x2, .int v, x4, x5, x6] (.int v :: st) σ ρ g τ Q := aw_lc m229 d229_31 rfl rfl rfl
theorem d229_32 : decode cX12_earns 32 = .ok (.imul, 1) := by decide +kernel
theorem s229_32 {d : Nat} {st : List Value} {σ : am_I} {ρ : am_R} {g : am_J} {τ : am_T} {Q : am_Q} {x0 x1 x2 x3 x4 x5 x6 : Value} {v w : Int32} : AW d 229 32 [x0, x1, x2, x3, x4, x5, x6] (.int w :: .int v :: st) σ ρ g τ Q = AW d 229 33 [x0, x1, x2, x3, x4, x5, x6] (.int (v * w) :: st) σ ρ g τ Q := aw_lc m229 d229_32 rfl rfl rfl
theorem d229_33 : decode cX12_earns 33 = .ok (.iconst 2, 1) := by decide +kernel
theorem s229_33 {d : Nat} {st : List Value} {σ : am_I} {ρ : am_R} {g : am_J} {τ : am_T} {Q : am_Q} {x0 x1 x2 x3 x4 x5 x6 : Value} : AW d 229 33 [x0, x1, x2, x3, x4, x5, x6] (st) σ ρ g τ Q = AW d 229 34 [x0, x1, x2, x3, x4, x5, x6] (.int 2 :: st) σ ρ g τ Q := aw_lc m229 d229_33 rfl rfl rfl
theorem d229_34 : decode cX12_earns 34 = .ok (.iadd, 1) := by decide +kernel
theorem s229_34 {d : Nat} {st : List Value} {σ : am_I} {ρ : am_R} {g : am_J} {τ : am_T} {Q : am_Q} {x0 x1 x2 x3 x4 x5 x6 : Value} {v w : Int32} : AW d 229 34 [x0, x1, x2, x3, x4, x5, x6] (.int w :: .int v :: st) σ ρ g τ Q = AW d 229 35 [x0, x1, x2, x3, x4, x5, x6] (.int (v + w) :: st) σ ρ g τ Q := aw_lc m229 d229_34 rfl rfl rfl
theorem d229_35 : decode cX12_earns 35 = .ok (.iaload, 1) := by decide +kernel
theorem s229_35 {d : Nat} {st : List Value} {σ : am_I} {ρ : am_R} {g : am_J} {τ : am_T} {Q : am_Q} {x0 x1 x2 x3 x4 x5 x6 : Value} {a : Nat} {j : Int32} (ht : τ.1 a = 15) (hj : am_inb j (τ.2.1 a) = true) : AW d 229 35 [x0, x1, x2, x3, x4, x5, x6] (.int j :: .ref a :: st) σ ρ g τ Q = AW d 229 36 [x0, x1, x2, x3, x4, x5, x6] (.int (σ a j.toNatClampNeg) :: st) σ ρ g τ Q := aw_ial m229 d229_35 rfl ht hj
theorem d229_36 : decode cX12_earns 36 = .ok (.iadd, 1) := by decide +kernel
theorem s229_36 {d : Nat} {st : List Value} {σ : am_I} {ρ : am_R} {g : am_J} {τ : am_T} {Q : am_Q} {x0 x1 x2 x3 x4 x5 x6 : Value} {v w : Int32} : AW d 229 36 [x0, x1, x2, x3, x4, x5, x6] (.int w :: .int v :: st) σ ρ g τ Q = AW d 229 37 [x0, x1, x2, x3, x4, x5, x6] (.int (v + w) :: st) σ ρ g τ Q := aw_lc m229 d229_36 rfl rfl rfl
theorem d229_37 : decode cX12_earns 37 = .ok (.istore 4, 2) := by decide +kernel
theorem s229_37 {d : Nat} {st : List Value} {σ : am_I} {ρ : am_R} {g : am_J} {τ : am_T} {Q : am_Q} {x0 x1 x2 x4 x5 x6 : Value} {v : Int32} {u : Int32} : AW d 229 37 [x0, x1, x2, .int u, x4, x5, x6] (.int v :: st) σ ρ g τ Q = AW d 229 39 [x0, x1, x2, .int u, .int v, x5, x6] (st) σ ρ g τ Q := aw_lc m229 d229_37 rfl rfl rfl
theorem d229_39 : decode cX12_earns 39 = .ok (.iconst 0, 1) := by decide +kernel
theorem s229_39 {d : Nat} {st : List Value} {σ : am_I} {ρ : am_R} {g : am_J} {τ : am_T} {Q : am_Q} {x0 x1 x2 x3 x4 x5 x6 : Value} : AW d 229 39 [x0, x1, x2, x3, x4, x5, x6] (st) σ ρ g τ Q = AW d 229 40 [x0, x1, x2, x3, x4, x5, x6] (.int 0 :: st) σ ρ g τ Q := aw_lc m229 d229_39 rfl rfl rfl
theorem d229_40 : decode cX12_earns 40 = .ok (.istore 5, 2) := by decide +kernel
theorem s229_40 {d : Nat} {st : List Value} {σ : am_I} {ρ : am_R} {g : am_J} {τ : am_T} {Q : am_Q} {x0 x1 x2 x3 x5 x6 : Value} {v : Int32} {u : Int32} : AW d 229 40 [x0, x1, x2, x3, .int u, x5, x6] (.int v :: st) σ ρ g τ Q = AW d 229 42 [x0, x1, x2, x3, .int u, .int v, x6] (st) σ ρ g τ Q := aw_lc m229 d229_40 rfl rfl rfl
theorem d229_42 : decode cX12_earns 42 = .ok (.iconst 0, 1) := by decide +kernel
theorem s229_42 {d : Nat} {st : List Value} {σ : am_I} {ρ : am_R} {g : am_J} {τ : am_T} {Q : am_Q} {x0 x1 x2 x3 x4 x5 x6 : Value} : AW d 229 42 [x0, x1, x2, x3, x4, x5, x6] (st) σ ρ g τ Q = AW d 229 43 [x0, x1, x2, x3, x4, x5, x6] (.int 0 :: st) σ ρ g τ Q := aw_lc m229 d229_42 rfl rfl rfl
theorem d229_43 : decode cX12_earns 43 = .ok (.istore 6, 2) := by decide +kernel
theorem s229_43 {d : Nat} {st : List Value} {σ : am_I} {ρ : am_R} {g : am_J} {τ : am_T} {Q : am_Q} {x0 x1 x2 x3 x4 x6 : Value} {v : Int32} {u : Int32} : AW d 229 43 [x0, x1, x2, x3, x4, .int u, x6] (.int v :: st) σ ρ g τ Q = AW d 229 45 [x0, x1, x2, x3, x4, .int u, .int v] (st) σ ρ g τ Q := aw_lc m229 d229_43 rfl rfl rfl
theorem d229_45 : decode cX12_earns 45 = .ok (.iload 6, 2) := by decide +kernel
theorem s229_45 {d : Nat} {st : List Value} {σ : am_I} {ρ : am_R} {g : am_J} {τ : am_T} {Q : am_Q} {x0 x1 x2 x3 x4 x5 : Value} {v : Int32} : AW d 229 45 [x0, x1, x2, x3, x4, x5, .int v] (st) σ ρ g τ Q = AW d 229 47 [x0, x1, x2, x3, x4, x5, .int v] (.int v :: st) σ ρ g τ Q := aw_lc m229 d229_45 rfl rfl rfl
theorem d229_47 : decode cX12_earns 47 = .ok (.bipush 12, 2) := by decide +kernel
theorem s229_47 {d : Nat} {st : List Value} {σ : am_I} {ρ : am_R} {g : am_J} {τ : am_T} {Q : am_Q} {x0 x1 x2 x3 x4 x5 x6 : Value} : AW d 229 47 [x0, x1, x2, x3, x4, x5, x6] (st) σ ρ g τ Q = AW d 229 49 [x0, x1, x2, x3, x4, x5, x6] (.int 12 :: st) σ ρ g τ Q := aw_lc m229 d229_47 rfl rfl rfl
theorem d229_49 : decode cX12_earns 49 = .ok (.if_icmp .ge 32, 3) := by decide +kernel
theorem s229_49 {d : Nat} {st : List Value} {σ : am_I} {ρ : am_R} {g : am_J} {τ : am_T} {Q : am_Q} {x0 x1 x2 x3 x4 x5 x6 : Value} {v w : Int32} : AW d 229 49 [x0, x1, x2, x3, x4, x5, x6] (.int w :: .int v :: st) σ ρ g τ Q = if w ≤ v then AW d 229 81 [x0, x1, x2, x3, x4, x5, x6] (st) σ ρ g τ Q else AW d 229 52 [x0, x1, x2, x3, x4, x5, x6] (st) σ ρ g τ Q := aw_br m229 d229_49 rfl rfl rfl
theorem d229_52 : decode cX12_earns 52 = .ok (.iload 5, 2) := by decide +kernel
theorem s229_52 {d : Nat} {st : List Value} {σ : am_I} {ρ : am_R} {g : am_J} {τ : am_T} {Q : am_Q} {x0 x1 x2 x3 x4 x6 : Value} {v : Int32} : AW d 229 52 [x0, x1, x2, x3, x4, .int v, x6] (st) σ ρ g τ Q = AW d 229 54 [x0, x1, x2, x3, x4, .int v, x6] (.int v :: st) σ ρ g τ Q := aw_lc m229 d229_52 rfl rfl rfl
theorem d229_54 : decode cX12_earns 54 = .ok (.iload 4, 2) := by decide +kernel
theorem s229_54 {d : Nat} {st : List Value} {σ : am_I} {ρ : am_R} {g : am_J} {τ : am_T} {Q : am_Q} {x0 x1 x2 x3 x5 x6 : Value} {v : Int32} : AW d 229 54 [x0, x1, x2, x3, .int v, x5, x6] (st) σ ρ g τ Q = AW d 229 56 [x0, x1, x2, x3, .int v, x5, x6] (.int v :: st) σ ρ g τ Q := aw_lc m229 d229_54 rfl rfl rfl
theorem d229_56 : decode cX12_earns 56 = .ok (.aload_n 0, 1) := by decide +kernel
theorem s229_56 {d : Nat} {st : List Value} {σ : am_I} {ρ : am_R} {g : am_J} {τ : am_T} {Q : am_Q} {x1 x2 x3 x4 x5 x6 : Value} {v : Nat} : AW d 229 56 [.ref v, x1, x2, x3, x4, x5, x6] (st) σ ρ g τ Q = AW d 229 57 [.ref v, x1, x2, x3, x4, x5, x6] (.ref v :: st) σ ρ g τ Q := aw_lc m229 d229_56 rfl rfl rfl
theorem d229_57 : decode cX12_earns 57 = .ok (.getfield 16, 3) := by decide +kernel
theorem s229_57 {d : Nat} {st : List Value} {σ : am_I} {ρ : am_R} {g : am_J} {τ : am_T} {Q : am_Q} {x0 x1 x2 x3 x4 x5 x6 : Value} {a : Nat} (ht : τ.1 a = 12) : AW d 229 57 [x0, x1, x2, x3, x4, x5, x6] (.ref a :: st) σ ρ g τ Q = AW d 229 60 [x0, x1, x2, x3, x4, x5, x6] (va_rf (ρ a 2) :: st) σ ρ g τ Q := aw_gr m229 d229_57 rfl rfl rfl ht
theorem d229_60 : decode cX12_earns 60 = .ok (.iload 6, 2) := by decide +kernel
theorem s229_60 {d : Nat} {st : List Value} {σ : am_I} {ρ : am_R} {g : am_J} {τ : am_T} {Q : am_Q} {x0 x1 x2 x3 x4 x5 : Value} {v : Int32} : AW d 229 60 [x0, x1, x2, x3, x4, x5, .int v] (st) σ ρ g τ Q = AW d 229 62 [x0, x1, x2, x3, x4, x5, .int v] (.int v :: st) σ ρ g τ Q := aw_lc m229 d229_60 rfl rfl rfl
theorem d229_62 : decode cX12_earns 62 = .ok (.iaload, 1) := by decide +kernel
theorem s229_62 {d : Nat} {st : List Value} {σ : am_I} {ρ : am_R} {g : am_J} {τ : am_T} {Q : am_Q} {x0 x1 x2 x3 x4 x5 x6 : Value} {a : Nat} {j : Int32} (ht : τ.1 a = 15) (hj : am_inb j (τ.2.1 a) = true) : AW d 229 62 [x0, x1, x2, x3, x4, x5, x6] (.int j :: .ref a :: st) σ ρ g τ Q = AW d 229 63 [x0, x1, x2, x3, x4, x5, x6] (.int (σ a j.toNatClampNeg) :: st) σ ρ g τ Q := aw_ial m229 d229_62 rfl ht hj
theorem d229_63 : decode cX12_earns 63 = .ok (.imul, 1) := by decide +kernel
theorem s229_63 {d : Nat} {st : List Value} {σ : am_I} {ρ : am_R} {g : am_J} {τ : am_T} {Q : am_Q} {x0 x1 x2 x3 x4 x5 x6 : Value} {v w : Int32} : AW d 229 63 [x0, x1, x2, x3, x4, x5, x6] (.int w :: .int v :: st) σ ρ g τ Q = AW d 229 64 [x0, x1, x2, x3, x4, x5, x6] (.int (v * w) :: st) σ ρ g τ Q := aw_lc m229 d229_63 rfl rfl rfl
theorem d229_64 : decode cX12_earns 64 = .ok (.bipush 100, 2) := by decide +kernel
theorem s229_64 {d : Nat} {st : List Value} {σ : am_I} {ρ : am_R} {g : am_J} {τ : am_T} {Q : am_Q} {x0 x1 x2 x3 x4 x5 x6 : Value} : AW d 229 64 [x0, x1, x2, x3, x4, x5, x6] (st) σ ρ g τ Q = AW d 229 66 [x0, x1, x2, x3, x4, x5, x6] (.int 100 :: st) σ ρ g τ Q := aw_lc m229 d229_64 rfl rfl rfl
theorem d229_66 : decode cX12_earns 66 = .ok (.idiv, 1) := by decide +kernel
theorem s229_66 {d : Nat} {st : List Value} {σ : am_I} {ρ : am_R} {g : am_J} {τ : am_T} {Q : am_Q} {x0 x1 x2 x3 x4 x5 x6 : Value} {v w : Int32} (h0 : ¬ w = 0) : AW d 229 66 [x0, x1, x2, x3, x4, x5, x6] (.int w :: .int v :: st) σ ρ g τ Q = AW d 229 67 [x0, x1, x2, x3, x4, x5, x6] (.int (v / w) :: st) σ ρ g τ Q := aw_div m229 d229_66 h0 rfl
theorem d229_67 : decode cX12_earns 67 = .ok (.iload_n 2, 1) := by decide +kernel
theorem s229_67 {d : Nat} {st : List Value} {σ : am_I} {ρ : am_R} {g : am_J} {τ : am_T} {Q : am_Q} {x0 x1 x3 x4 x5 x6 : Value} {v : Int32} : AW d 229 67 [x0, x1, .int v, x3, x4, x5, x6] (st) σ ρ g τ Q = AW d 229 68 [x0, x1, .int v, x3, x4, x5, x6] (.int v :: st) σ ρ g τ Q := aw_lc m229 d229_67 rfl rfl rfl
theorem d229_68 : decode cX12_earns 68 = .ok (.bipush 10, 2) := by decide +kernel
theorem s229_68 {d : Nat} {st : List Value} {σ : am_I} {ρ : am_R} {g : am_J} {τ : am_T} {Q : am_Q} {x0 x1 x2 x3 x4 x5 x6 : Value} : AW d 229 68 [x0, x1, x2, x3, x4, x5, x6] (st) σ ρ g τ Q = AW d 229 70 [x0, x1, x2, x3, x4, x5, x6] (.int 10 :: st) σ ρ g τ Q := aw_lc m229 d229_68 rfl rfl rfl
theorem d229_70 : decode cX12_earns 70 = .ok (.idiv, 1) := by decide +kernel
theorem s229_70 {d : Nat} {st : List Value} {σ : am_I} {ρ : am_R} {g : am_J} {τ : am_T} {Q : am_Q} {x0 x1 x2 x3 x4 x5 x6 : Value} {v w : Int32} (h0 : ¬ w = 0) : AW d 229 70 [x0, x1, x2, x3, x4, x5, x6] (.int w :: .int v :: st) σ ρ g τ Q = AW d 229 71 [x0, x1, x2, x3, x4, x5, x6] (.int (v / w) :: st) σ ρ g τ Q := aw_div m229 d229_70 h0 rfl
theorem d229_71 : decode cX12_earns 71 = .ok (.imul, 1) := by decide +kernel
theorem s229_71 {d : Nat} {st : List Value} {σ : am_I} {ρ : am_R} {g : am_J} {τ : am_T} {Q : am_Q} {x0 x1 x2 x3 x4 x5 x6 : Value} {v w : Int32} : AW d 229 71 [x0, x1, x2, x3, x4, x5, x6] (.int w :: .int v :: st) σ ρ g τ Q = AW d 229 72 [x0, x1, x2, x3, x4, x5, x6] (.int (v * w) :: st) σ ρ g τ Q := aw_lc m229 d229_71 rfl rfl rfl
theorem d229_72 : decode cX12_earns 72 = .ok (.iadd, 1) := by decide +kernel
theorem s229_72 {d : Nat} {st : List Value} {σ : am_I} {ρ : am_R} {g : am_J} {τ : am_T} {Q : am_Q} {x0 x1 x2 x3 x4 x5 x6 : Value} {v w : Int32} : AW d 229 72 [x0, x1, x2, x3, x4, x5, x6] (.int w :: .int v :: st) σ ρ g τ Q = AW d 229 73 [x0, x1, x2, x3, x4, x5, x6] (.int (v + w) :: st) σ ρ g τ Q := aw_lc m229 d229_72 rfl rfl rfl
theorem d229_73 : decode cX12_earns 73 = .ok (.istore 5, 2) := by decide +kernel
theorem s229_73 {d : Nat} {st : List Value} {σ : am_I} {ρ : am_R} {g : am_J} {τ : am_T} {Q : am_Q} {x0 x1 x2 x3 x5 x6 : Value} {v : Int32} {u : Int32} : AW d 229 73 [x0, x1, x2, x3, .int u, x5, x6] (.int v :: st) σ ρ g τ Q = AW d 229 75 [x0, x1, x2, x3, .int u, .int v, x6] (st) σ ρ g τ Q := aw_lc m229 d229_73 rfl rfl rfl
theorem d229_75 : decode cX12_earns 75 = .ok (.iinc 6 1, 3) := by decide +kernel
theorem s229_75 {d : Nat} {st : List Value} {σ : am_I} {ρ : am_R} {g : am_J} {τ : am_T} {Q : am_Q} {x0 x1 x2 x3 x4 : Value} {v : Int32} {u : Int32} : AW d 229 75 [x0, x1, x2, x3, x4, .int u, .int v] (st) σ ρ g τ Q = AW d 229 78 [x0, x1, x2, x3, x4, .int u, .int (v + 1)] (st) σ ρ g τ Q := aw_lc m229 d229_75 rfl rfl rfl
theorem d229_78 : decode cX12_earns 78 = .ok (.goto (-33), 3) := by decide +kernel
theorem s229_78 {d : Nat} {st : List Value} {σ : am_I} {ρ : am_R} {g : am_J} {τ : am_T} {Q : am_Q} {x0 x1 x2 x3 x4 x5 x6 : Value} : AW d 229 78 [x0, x1, x2, x3, x4, x5, x6] (st) σ ρ g τ Q = AW d 229 45 [x0, x1, x2, x3, x4, x5, x6] (st) σ ρ g τ Q := aw_lc m229 d229_78 rfl rfl rfl
theorem d229_81 : decode cX12_earns 81 = .ok (.iload 5, 2) := by decide +kernel
theorem s229_81 {d : Nat} {st : List Value} {σ : am_I} {ρ : am_R} {g : am_J} {τ : am_T} {Q : am_Q} {x0 x1 x2 x3 x4 x6 : Value} {v : Int32} : AW d 229 81 [x0, x1, x2, x3, x4, .int v, x6] (st) σ ρ g τ Q = AW d 229 83 [x0, x1, x2, x3, x4, .int v, x6] (.int v :: st) σ ρ g τ Q := aw_lc m229 d229_81 rfl rfl rfl
theorem d229_83 : decode cX12_earns 83 = .ok (.ireturn, 1) := by decide +kernel
theorem s229_83 {d : Nat} {σ : am_I} {ρ : am_R} {g : am_J} {τ : am_T} {Q : am_Q} {x0 x1 x2 x3 x4 x5 x6 : Value} {v : Int32} : AW d 229 83 [x0, x1, x2, x3, x4, x5, x6] ([.int v]) σ ρ g τ Q = Q (some (.int v)) σ ρ g τ := aw_ri m229 d229_83 rfl
theorem d230_0 : decode cX12_railwayOf 0 = .ok (.aload_n 0, 1) := by decide +kernel
theorem s230_0 {d : Nat} {st : List Value} {σ : am_I} {ρ : am_R} {g : am_J} {τ : am_T} {Q : am_Q} {x1 x2 x3 : Value} {v : Nat} : AW d 230 0 [.ref v, x1, x2, x3] (st) σ ρ g τ Q = AW d 230 1 [.ref v, x1, x2, x3] (.ref v :: st) σ ρ g τ Q := aw_lc m230 d230_0 rfl rfl rfl
theorem d230_1 : decode cX12_railwayOf 1 = .ok (.iconst 4, 1) := by decide +kernel
theorem s230_1 {d : Nat} {st : List Value} {σ : am_I} {ρ : am_R} {g : am_J} {τ : am_T} {Q : am_Q} {x0 x1 x2 x3 : Value} : AW d 230 1 [x0, x1, x2, x3] (st) σ ρ g τ Q = AW d 230 2 [x0, x1, x2, x3] (.int 4 :: st) σ ρ g τ Q := aw_lc m230 d230_1 rfl rfl rfl
theorem d230_2 : decode cX12_railwayOf 2 = .ok (.iload_n 1, 1) := by decide +kernel
theorem s230_2 {d : Nat} {st : List Value} {σ : am_I} {ρ : am_R} {g : am_J} {τ : am_T} {Q : am_Q} {x0 x2 x3 : Value} {v : Int32} : AW d 230 2 [x0, .int v, x2, x3] (st) σ ρ g τ Q = AW d 230 3 [x0, .int v, x2, x3] (.int v :: st) σ ρ g τ Q := aw_lc m230 d230_2 rfl rfl rfl
theorem d230_3 : decode cX12_railwayOf 3 = .ok (.invokevirtual 210, 3) := by decide +kernel
theorem s230_3 {d : Nat} {st : List Value} {σ : am_I} {ρ : am_R} {g : am_J} {τ : am_T} {Q : am_Q} {x0 x1 x2 x3 : Value} {p0 : Nat} {p1 : Int32} {p2 : Int32} (ht : τ.1 p0 = 12) (hs : st.length ≤ 4) : AW (d + 1) 230 3 [x0, x1, x2, x3] (.int p2 :: .int p1 :: .ref p0 :: st) σ ρ g τ Q = AW d 167 0 [.ref p0, .int p1, .int p2] [] σ ρ g τ (fun r9 σ ρ g τ => AW (d + 1) 230 6 [x0, x1, x2, x3] (r9.toList ++ st) σ ρ g τ Q) := aw_cv m230 d230_3 rfl m167 rfl rfl (by decide) en167 ok167 rfl ht hs
theorem d230_6 : decode cX12_railwayOf 6 = .ok (.ifCond .eq 12, 3) := by decide +kernel
theorem s230_6 {d : Nat} {st : List Value} {σ : am_I} {ρ : am_R} {g : am_J} {τ : am_T} {Q : am_Q} {x0 x1 x2 x3 : Value} {v : Int32} : AW d 230 6 [x0, x1, x2, x3] (.int v :: st) σ ρ g τ Q = if v = 0 then AW d 230 18 [x0, x1, x2, x3] (st) σ ρ g τ Q else AW d 230 9 [x0, x1, x2, x3] (st) σ ρ g τ Q := aw_br m230 d230_6 rfl rfl rfl
theorem d230_9 : decode cX12_railwayOf 9 = .ok (.iload_n 2, 1) := by decide +kernel
theorem s230_9 {d : Nat} {st : List Value} {σ : am_I} {ρ : am_R} {g : am_J} {τ : am_T} {Q : am_Q} {x0 x1 x3 : Value} {v : Int32} : AW d 230 9 [x0, x1, .int v, x3] (st) σ ρ g τ Q = AW d 230 10 [x0, x1, .int v, x3] (.int v :: st) σ ρ g τ Q := aw_lc m230 d230_9 rfl rfl rfl
theorem d230_10 : decode cX12_railwayOf 10 = .ok (.iconst 0, 1) := by decide +kernel
theorem s230_10 {d : Nat} {st : List Value} {σ : am_I} {ρ : am_R} {g : am_J} {τ : am_T} {Q : am_Q} {x0 x1 x2 x3 : Value} : AW d 230 10 [x0, x1, x2, x3] (st) σ ρ g τ Q = AW d 230 11 [x0, x1, x2, x3] (.int 0 :: st) σ ρ g τ Q := aw_lc m230 d230_10 rfl rfl rfl
theorem d230_11 : decode cX12_railwayOf 11 = .ok (.iconst 2, 1) := by decide +kernel
theorem s230_11 {d : Nat} {st : List Value} {σ : am_I} {ρ : am_R} {g : am_J} {τ : am_T} {Q : am_Q} {x0 x1 x2 x3 : Value} : AW d 230 11 [x0, x1, x2, x3] (st) σ ρ g τ Q = AW d 230 12 [x0, x1, x2, x3] (.int 2 :: st) σ ρ g τ Q := aw_lc m230 d230_11 rfl rfl rfl
theorem d230_12 : decode cX12_railwayOf 12 = .ok (.invokestatic 194, 3) := by decide +kernel
theorem s230_12 {d : Nat} {st : List Value} {σ : am_I} {ρ : am_R} {g : am_J} {τ : am_T} {Q : am_Q} {x0 x1 x2 x3 : Value} {p0 : Int32} {p1 : Int32} {p2 : Int32} (hs : st.length ≤ 4) : AW (d + 1) 230 12 [x0, x1, x2, x3] (.int p2 :: .int p1 :: .int p0 :: st) σ ρ g τ Q = AW d 165 0 [.int p0, .int p1, .int p2] [] σ ρ g τ (fun r9 σ ρ g τ => AW (d + 1) 230 15 [x0, x1, x2, x3] (r9.toList ++ st) σ ρ g τ Q) := aw_cs m230 d230_12 rfl (by simp only [List.length_cons]; omega) rfl rfl en165 ok165 rfl hs
theorem d230_15 : decode cX12_railwayOf 15 = .ok (.ifCond .ne 5, 3) := by decide +kernel
theorem s230_15 {d : Nat} {st : List Value} {σ : am_I} {ρ : am_R} {g : am_J} {τ : am_T} {Q : am_Q} {x0 x1 x2 x3 : Value} {v : Int32} : AW d 230 15 [x0, x1, x2, x3] (.int v :: st) σ ρ g τ Q = if ¬ v = 0 then AW d 230 20 [x0, x1, x2, x3] (st) σ ρ g τ Q else AW d 230 18 [x0, x1, x2, x3] (st) σ ρ g τ Q := aw_br m230 d230_15 rfl rfl rfl
theorem d230_18 : decode cX12_railwayOf 18 = .ok (.iconst (-1), 1) := by decide +kernel
theorem s230_18 {d : Nat} {st : List Value} {σ : am_I} {ρ : am_R} {g : am_J} {τ : am_T} {Q : am_Q} {x0 x1 x2 x3 : Value} : AW d 230 18 [x0, x1, x2, x3] (st) σ ρ g τ Q = AW d 230 19 [x0, x1, x2, x3] (.int (-1) :: st) σ ρ g τ Q := aw_lc m230 d230_18 rfl rfl rfl
theorem d230_19 : decode cX12_railwayOf 19 = .ok (.ireturn, 1) := by decide +kernel
theorem s230_19 {d : Nat} {σ : am_I} {ρ : am_R} {g : am_J} {τ : am_T} {Q : am_Q} {x0 x1 x2 x3 : Value} {v : Int32} : AW d 230 19 [x0, x1, x2, x3] ([.int v]) σ ρ g τ Q = Q (some (.int v)) σ ρ g τ := aw_ri m230 d230_19 rfl
theorem d230_20 : decode cX12_railwayOf 20 = .ok (.iload_n 2, 1) := by decide +kernel
theorem s230_20 {d : Nat} {st : List Value} {σ : am_I} {ρ : am_R} {g : am_J} {τ : am_T} {Q : am_Q} {x0 x1 x3 : Value} {v : Int32} : AW d 230 20 [x0, x1, .int v, x3] (st) σ ρ g τ Q = AW d 230 21 [x0, x1, .int v, x3] (.int v :: st) σ ρ g τ Q := aw_lc m230 d230_20 rfl rfl rfl
theorem d230_21 : decode cX12_railwayOf 21 = .ok (.ifCond .ne 15, 3) := by decide +kernel
theorem s230_21 {d : Nat} {st : List Value} {σ : am_I} {ρ : am_R} {g : am_J} {τ : am_T} {Q : am_Q} {x0 x1 x2 x3 : Value} {v : Int32} : AW d 230 21 [x0, x1, x2, x3] (.int v :: st) σ ρ g τ Q = if ¬ v = 0 then AW d 230 36 [x0, x1, x2, x3] (st) σ ρ g τ Q else AW d 230 24 [x0, x1, x2, x3] (st) σ ρ g τ Q := aw_br m230 d230_21 rfl rfl rfl
theorem d230_24 : decode cX12_railwayOf 24 = .ok (.aload_n 0, 1) := by decide +kernel
theorem s230_24 {d : Nat} {st : List Value} {σ : am_I} {ρ : am_R} {g : am_J} {τ : am_T} {Q : am_Q} {x1 x2 x3 : Value} {v : Nat} : AW d 230 24 [.ref v, x1, x2, x3] (st) σ ρ g τ Q = AW d 230 25 [.ref v, x1, x2, x3] (.ref v :: st) σ ρ g τ Q := aw_lc m230 d230_24 rfl rfl rfl
theorem d230_25 : decode cX12_railwayOf 25 = .ok (.iload_n 1, 1) := by decide +kernel
theorem s230_25 {d : Nat} {st : List Value} {σ : am_I} {ρ : am_R} {g : am_J} {τ : am_T} {Q : am_Q} {x0 x2 x3 : Value} {v : Int32} : AW d 230 25 [x0, .int v, x2, x3] (st) σ ρ g τ Q = AW d 230 26 [x0, .int v, x2, x3] (.int v :: st) σ ρ g τ Q := aw_lc m230 d230_25 rfl rfl rfl
theorem d230_26 : decode cX12_railwayOf 26 = .ok (.aload_n 0, 1) := by decide +kernel
theorem s230_26 {d : Nat} {st : List Value} {σ : am_I} {ρ : am_R} {g : am_J} {τ : am_T} {Q : am_Q} {x1 x2 x3 : Value} {v : Nat} : AW d 230 26 [.ref v, x1, x2, x3] (st) σ ρ g τ Q = AW d 230 27 [.ref v, x1, x2, x3] (.ref v :: st) σ ρ g τ Q := aw_lc m230 d230_26 rfl rfl rfl
theorem d230_27 : decode cX12_railwayOf 27 = .ok (.getfield 94, 3) := by decide +kernel
theorem s230_27 {d : Nat} {st : List Value} {σ : am_I} {ρ : am_R} {g : am_J} {τ : am_T} {Q : am_Q} {x0 x1 x2 x3 : Value} {a : Nat} (ht : τ.1 a = 12) : AW d 230 27 [x0, x1, x2, x3] (.ref a :: st) σ ρ g τ Q = AW d 230 30 [x0, x1, x2, x3] (va_rf (ρ a 28) :: st) σ ρ g τ Q := aw_gr m230 d230_27 rfl rfl rfl ht
theorem d230_30 : decode cX12_railwayOf 30 = .ok (.iload_n 1, 1) := by decide +kernel
theorem s230_30 {d : Nat} {st : List Value} {σ : am_I} {ρ : am_R} {g : am_J} {τ : am_T} {Q : am_Q} {x0 x2 x3 : Value} {v : Int32} : AW d 230 30 [x0, .int v, x2, x3] (st) σ ρ g τ Q = AW d 230 31 [x0, .int v, x2, x3] (.int v :: st) σ ρ g τ Q := aw_lc m230 d230_30 rfl rfl rfl
theorem d230_31 : decode cX12_railwayOf 31 = .ok (.iaload, 1) := by decide +kernel
theorem s230_31 {d : Nat} {st : List Value} {σ : am_I} {ρ : am_R} {g : am_J} {τ : am_T} {Q : am_Q} {x0 x1 x2 x3 : Value} {a : Nat} {j : Int32} (ht : τ.1 a = 15) (hj : am_inb j (τ.2.1 a) = true) : AW d 230 31 [x0, x1, x2, x3] (.int j :: .ref a :: st) σ ρ g τ Q = AW d 230 32 [x0, x1, x2, x3] (.int (σ a j.toNatClampNeg) :: st) σ ρ g τ Q := aw_ial m230 d230_31 rfl ht hj
theorem d230_32 : decode cX12_railwayOf 32 = .ok (.invokevirtual 407, 3) := by decide +kernel
theorem s230_32 {d : Nat} {st : List Value} {σ : am_I} {ρ : am_R} {g : am_J} {τ : am_T} {Q : am_Q} {x0 x1 x2 x3 : Value} {p0 : Nat} {p1 : Int32} {p2 : Int32} (ht : τ.1 p0 = 12) (hs : st.length ≤ 4) : AW (d + 1) 230 32 [x0, x1, x2, x3] (.int p2 :: .int p1 :: .ref p0 :: st) σ ρ g τ Q = AW d 229 0 [.ref p0, .int p1, .int p2, am_jk, am_jk, am_jk, am_jk] [] σ ρ g τ (fun r9 σ ρ g τ => AW (d + 1) 230 35 [x0, x1, x2, x3] (r9.toList ++ st) σ ρ g τ Q) := aw_cv m230 d230_32 rfl m229 rfl rfl (by decide) en229 ok229 rfl ht hs
theorem d230_35 : decode cX12_railwayOf 35 = .ok (.ireturn, 1) := by decide +kernel
theorem s230_35 {d : Nat} {σ : am_I} {ρ : am_R} {g : am_J} {τ : am_T} {Q : am_Q} {x0 x1 x2 x3 : Value} {v : Int32} : AW d 230 35 [x0, x1, x2, x3] ([.int v]) σ ρ g τ Q = Q (some (.int v)) σ ρ g τ := aw_ri m230 d230_35 rfl
theorem d230_36 : decode cX12_railwayOf 36 = .ok (.iload_n 2, 1) := by decide +kernel
theorem s230_36 {d : Nat} {st : List Value} {σ : am_I} {ρ : am_R} {g : am_J} {τ : am_T} {Q : am_Q} {x0 x1 x3 : Value} {v : Int32} : AW d 230 36 [x0, x1, .int v, x3] (st) σ ρ g τ Q = AW d 230 37 [x0, x1, .int v, x3] (.int v :: st) σ ρ g τ Q := aw_lc m230 d230_36 rfl rfl rfl
theorem d230_37 : decode cX12_railwayOf 37 = .ok (.iconst 1, 1) := by decide +kernel
theorem s230_37 {d : Nat} {st : List Value} {σ : am_I} {ρ : am_R} {g : am_J} {τ : am_T} {Q : am_Q} {x0 x1 x2 x3 : Value} : AW d 230 37 [x0, x1, x2, x3] (st) σ ρ g τ Q = AW d 230 38 [x0, x1, x2, x3] (.int 1 :: st) σ ρ g τ Q := aw_lc m230 d230_37 rfl rfl rfl
theorem d230_38 : decode cX12_railwayOf 38 = .ok (.if_icmp .ne 33, 3) := by decide +kernel
theorem s230_38 {d : Nat} {st : List Value} {σ : am_I} {ρ : am_R} {g : am_J} {τ : am_T} {Q : am_Q} {x0 x1 x2 x3 : Value} {v w : Int32} : AW d 230 38 [x0, x1, x2, x3] (.int w :: .int v :: st) σ ρ g τ Q = if ¬ v = w then AW d 230 71 [x0, x1, x2, x3] (st) σ ρ g τ Q else AW d 230 41 [x0, x1, x2, x3] (st) σ ρ g τ Q := aw_br m230 d230_38 rfl rfl rfl
theorem d230_41 : decode cX12_railwayOf 41 = .ok (.iconst 0, 1) := by decide +kernel
theorem s230_41 {d : Nat} {st : List Value} {σ : am_I} {ρ : am_R} {g : am_J} {τ : am_T} {Q : am_Q} {x0 x1 x2 x3 : Value} : AW d 230 41 [x0, x1, x2, x3] (st) σ ρ g τ Q = AW d 230 42 [x0, x1, x2, x3] (.int 0 :: st) σ ρ g τ Q := aw_lc m230 d230_41 rfl rfl rfl
theorem d230_42 : decode cX12_railwayOf 42 = .ok (.aload_n 0, 1) := by decide +kernel
theorem s230_42 {d : Nat} {st : List Value} {σ : am_I} {ρ : am_R} {g : am_J} {τ : am_T} {Q : am_Q} {x1 x2 x3 : Value} {v : Nat} : AW d 230 42 [.ref v, x1, x2, x3] (st) σ ρ g τ Q = AW d 230 43 [.ref v, x1, x2, x3] (.ref v :: st) σ ρ g τ Q := aw_lc m230 d230_42 rfl rfl rfl
theorem d230_43 : decode cX12_railwayOf 43 = .ok (.getfield 97, 3) := by decide +kernel
theorem s230_43 {d : Nat} {st : List Value} {σ : am_I} {ρ : am_R} {g : am_J} {τ : am_T} {Q : am_Q} {x0 x1 x2 x3 : Value} {a : Nat} (ht : τ.1 a = 12) : AW d 230 43 [x0, x1, x2, x3] (.ref a :: st) σ ρ g τ Q = AW d 230 46 [x0, x1, x2, x3] (va_rf (ρ a 29) :: st) σ ρ g τ Q := aw_gr m230 d230_43 rfl rfl rfl ht
theorem d230_46 : decode cX12_railwayOf 46 = .ok (.iload_n 1, 1) := by decide +kernel
theorem s230_46 {d : Nat} {st : List Value} {σ : am_I} {ρ : am_R} {g : am_J} {τ : am_T} {Q : am_Q} {x0 x2 x3 : Value} {v : Int32} : AW d 230 46 [x0, .int v, x2, x3] (st) σ ρ g τ Q = AW d 230 47 [x0, .int v, x2, x3] (.int v :: st) σ ρ g τ Q := aw_lc m230 d230_46 rfl rfl rfl
theorem d230_47 : decode cX12_railwayOf 47 = .ok (.iaload, 1) := by decide +kernel
theorem s230_47 {d : Nat} {st : List Value} {σ : am_I} {ρ : am_R} {g : am_J} {τ : am_T} {Q : am_Q} {x0 x1 x2 x3 : Value} {a : Nat} {j : Int32} (ht : τ.1 a = 15) (hj : am_inb j (τ.2.1 a) = true) : AW d 230 47 [x0, x1, x2, x3] (.int j :: .ref a :: st) σ ρ g τ Q = AW d 230 48 [x0, x1, x2, x3] (.int (σ a j.toNatClampNeg) :: st) σ ρ g τ Q := aw_ial m230 d230_47 rfl ht hj
theorem d230_48 : decode cX12_railwayOf 48 = .ok (.aload_n 0, 1) := by decide +kernel
theorem s230_48 {d : Nat} {st : List Value} {σ : am_I} {ρ : am_R} {g : am_J} {τ : am_T} {Q : am_Q} {x1 x2 x3 : Value} {v : Nat} : AW d 230 48 [.ref v, x1, x2, x3] (st) σ ρ g τ Q = AW d 230 49 [.ref v, x1, x2, x3] (.ref v :: st) σ ρ g τ Q := aw_lc m230 d230_48 rfl rfl rfl
theorem d230_49 : decode cX12_railwayOf 49 = .ok (.getfield 94, 3) := by decide +kernel
theorem s230_49 {d : Nat} {st : List Value} {σ : am_I} {ρ : am_R} {g : am_J} {τ : am_T} {Q : am_Q} {x0 x1 x2 x3 : Value} {a : Nat} (ht : τ.1 a = 12) : AW d 230 49 [x0, x1, x2, x3] (.ref a :: st) σ ρ g τ Q = AW d 230 52 [x0, x1, x2, x3] (va_rf (ρ a 28) :: st) σ ρ g τ Q := aw_gr m230 d230_49 rfl rfl rfl ht
theorem d230_52 : decode cX12_railwayOf 52 = .ok (.iload_n 1, 1) := by decide +kernel
theorem s230_52 {d : Nat} {st : List Value} {σ : am_I} {ρ : am_R} {g : am_J} {τ : am_T} {Q : am_Q} {x0 x2 x3 : Value} {v : Int32} : AW d 230 52 [x0, .int v, x2, x3] (st) σ ρ g τ Q = AW d 230 53 [x0, .int v, x2, x3] (.int v :: st) σ ρ g τ Q := aw_lc m230 d230_52 rfl rfl rfl
theorem d230_53 : decode cX12_railwayOf 53 = .ok (.iaload, 1) := by decide +kernel
theorem s230_53 {d : Nat} {st : List Value} {σ : am_I} {ρ : am_R} {g : am_J} {τ : am_T} {Q : am_Q} {x0 x1 x2 x3 : Value} {a : Nat} {j : Int32} (ht : τ.1 a = 15) (hj : am_inb j (τ.2.1 a) = true) : AW d 230 53 [x0, x1, x2, x3] (.int j :: .ref a :: st) σ ρ g τ Q = AW d 230 54 [x0, x1, x2, x3] (.int (σ a j.toNatClampNeg) :: st) σ ρ g τ Q := aw_ial m230 d230_53 rfl ht hj
theorem d230_54 : decode cX12_railwayOf 54 = .ok (.imul, 1) := by decide +kernel
theorem s230_54 {d : Nat} {st : List Value} {σ : am_I} {ρ : am_R} {g : am_J} {τ : am_T} {Q : am_Q} {x0 x1 x2 x3 : Value} {v w : Int32} : AW d 230 54 [x0, x1, x2, x3] (.int w :: .int v :: st) σ ρ g τ Q = AW d 230 55 [x0, x1, x2, x3] (.int (v * w) :: st) σ ρ g τ Q := aw_lc m230 d230_54 rfl rfl rfl
theorem d230_55 : decode cX12_railwayOf 55 = .ok (.aload_n 0, 1) := by decide +kernel
theorem s230_55 {d : Nat} {st : List Value} {σ : am_I} {ρ : am_R} {g : am_J} {τ : am_T} {Q : am_Q} {x1 x2 x3 : Value} {v : Nat} : AW d 230 55 [.ref v, x1, x2, x3] (st) σ ρ g τ Q = AW d 230 56 [.ref v, x1, x2, x3] (.ref v :: st) σ ρ g τ Q := aw_lc m230 d230_55 rfl rfl rfl
theorem d230_56 : decode cX12_railwayOf 56 = .ok (.iload_n 1, 1) := by decide +kernel
theorem s230_56 {d : Nat} {st : List Value} {σ : am_I} {ρ : am_R} {g : am_J} {τ : am_T} {Q : am_Q} {x0 x2 x3 : Value} {v : Int32} : AW d 230 56 [x0, .int v, x2, x3] (st) σ ρ g τ Q = AW d 230 57 [x0, .int v, x2, x3] (.int v :: st) σ ρ g τ Q := aw_lc m230 d230_56 rfl rfl rfl
theorem d230_57 : decode cX12_railwayOf 57 = .ok (.aload_n 0, 1) := by decide +kernel
theorem s230_57 {d : Nat} {st : List Value} {σ : am_I} {ρ : am_R} {g : am_J} {τ : am_T} {Q : am_Q} {x1 x2 x3 : Value} {v : Nat} : AW d 230 57 [.ref v, x1, x2, x3] (st) σ ρ g τ Q = AW d 230 58 [.ref v, x1, x2, x3] (.ref v :: st) σ ρ g τ Q := aw_lc m230 d230_57 rfl rfl rfl
theorem d230_58 : decode cX12_railwayOf 58 = .ok (.getfield 94, 3) := by decide +kernel
theorem s230_58 {d : Nat} {st : List Value} {σ : am_I} {ρ : am_R} {g : am_J} {τ : am_T} {Q : am_Q} {x0 x1 x2 x3 : Value} {a : Nat} (ht : τ.1 a = 12) : AW d 230 58 [x0, x1, x2, x3] (.ref a :: st) σ ρ g τ Q = AW d 230 61 [x0, x1, x2, x3] (va_rf (ρ a 28) :: st) σ ρ g τ Q := aw_gr m230 d230_58 rfl rfl rfl ht
theorem d230_61 : decode cX12_railwayOf 61 = .ok (.iload_n 1, 1) := by decide +kernel
theorem s230_61 {d : Nat} {st : List Value} {σ : am_I} {ρ : am_R} {g : am_J} {τ : am_T} {Q : am_Q} {x0 x2 x3 : Value} {v : Int32} : AW d 230 61 [x0, .int v, x2, x3] (st) σ ρ g τ Q = AW d 230 62 [x0, .int v, x2, x3] (.int v :: st) σ ρ g τ Q := aw_lc m230 d230_61 rfl rfl rfl
theorem d230_62 : decode cX12_railwayOf 62 = .ok (.iaload, 1) := by decide +kernel
theorem s230_62 {d : Nat} {st : List Value} {σ : am_I} {ρ : am_R} {g : am_J} {τ : am_T} {Q : am_Q} {x0 x1 x2 x3 : Value} {a : Nat} {j : Int32} (ht : τ.1 a = 15) (hj : am_inb j (τ.2.1 a) = true) : AW d 230 62 [x0, x1, x2, x3] (.int j :: .ref a :: st) σ ρ g τ Q = AW d 230 63 [x0, x1, x2, x3] (.int (σ a j.toNatClampNeg) :: st) σ ρ g τ Q := aw_ial m230 d230_62 rfl ht hj
theorem d230_63 : decode cX12_railwayOf 63 = .ok (.invokevirtual 407, 3) := by decide +kernel
theorem s230_63 {d : Nat} {st : List Value} {σ : am_I} {ρ : am_R} {g : am_J} {τ : am_T} {Q : am_Q} {x0 x1 x2 x3 : Value} {p0 : Nat} {p1 : Int32} {p2 : Int32} (ht : τ.1 p0 = 12) (hs : st.length ≤ 4) : AW (d + 1) 230 63 [x0, x1, x2, x3] (.int p2 :: .int p1 :: .ref p0 :: st) σ ρ g τ Q = AW d 229 0 [.ref p0, .int p1, .int p2, am_jk, am_jk, am_jk, am_jk] [] σ ρ g τ (fun r9 σ ρ g τ => AW (d + 1) 230 66 [x0, x1, x2, x3] (r9.toList ++ st) σ ρ g τ Q) := aw_cv m230 d230_63 rfl m229 rfl rfl (by decide) en229 ok229 rfl ht hs
theorem d230_66 : decode cX12_railwayOf 66 = .ok (.isub, 1) := by decide +kernel
theorem s230_66 {d : Nat} {st : List Value} {σ : am_I} {ρ : am_R} {g : am_J} {τ : am_T} {Q : am_Q} {x0 x1 x2 x3 : Value} {v w : Int32} : AW d 230 66 [x0, x1, x2, x3] (.int w :: .int v :: st) σ ρ g τ Q = AW d 230 67 [x0, x1, x2, x3] (.int (v - w) :: st) σ ρ g τ Q := aw_lc m230 d230_66 rfl rfl rfl
theorem d230_67 : decode cX12_railwayOf 67 = .ok (.invokestatic 356, 3) := by decide +kernel
theorem s230_67 {d : Nat} {st : List Value} {σ : am_I} {ρ : am_R} {g : am_J} {τ : am_T} {Q : am_Q} {x0 x1 x2 x3 : Value} {v w : Int32} (hs : st.length ≤ 4) : AW d 230 67 [x0, x1, x2, x3] (.int w :: .int v :: st) σ ρ g τ Q = AW d 230 70 [x0, x1, x2, x3] (.int (if v < w then w else v) :: st) σ ρ g τ Q := aw_max m230 d230_67 rfl rfl hs
theorem d230_70 : decode cX12_railwayOf 70 = .ok (.ireturn, 1) := by decide +kernel
theorem s230_70 {d : Nat} {σ : am_I} {ρ : am_R} {g : am_J} {τ : am_T} {Q : am_Q} {x0 x1 x2 x3 : Value} {v : Int32} : AW d 230 70 [x0, x1, x2, x3] ([.int v]) σ ρ g τ Q = Q (some (.int v)) σ ρ g τ := aw_ri m230 d230_70 rfl
theorem d230_71 : decode cX12_railwayOf 71 = .ok (.sipush 401, 3) := by decide +kernel
theorem s230_71 {d : Nat} {st : List Value} {σ : am_I} {ρ : am_R} {g : am_J} {τ : am_T} {Q : am_Q} {x0 x1 x2 x3 : Value} : AW d 230 71 [x0, x1, x2, x3] (st) σ ρ g τ Q = AW d 230 74 [x0, x1, x2, x3] (.int 401 :: st) σ ρ g τ Q := aw_lc m230 d230_71 rfl rfl rfl
theorem d230_74 : decode cX12_railwayOf 74 = .ok (.istore_n 3, 1) := by decide +kernel
theorem s230_74 {d : Nat} {st : List Value} {σ : am_I} {ρ : am_R} {g : am_J} {τ : am_T} {Q : am_Q} {x0 x1 x3 : Value} {v : Int32} {u : Int32} : AW d 230 74 [x0, x1, .int u, x3] (.int v :: st) σ ρ g τ Q = AW d 230 75 [x0, x1, .int u, .int v] (st) σ ρ g τ Q := aw_lc m230 d230_74 rfl rfl rfl
theorem d230_75 : decode cX12_railwayOf 75 = .ok (.iload_n 3, 1) := by decide +kernel
theorem s230_75 {d : Nat} {st : List Value} {σ : am_I} {ρ : am_R} {g : am_J} {τ : am_T} {Q : am_Q} {x0 x1 x2 : Value} {v : Int32} : AW d 230 75 [x0, x1, x2, .int v] (st) σ ρ g τ Q = AW d 230 76 [x0, x1, x2, .int v] (.int v :: st) σ ρ g τ Q := aw_lc m230 d230_75 rfl rfl rfl
theorem d230_76 : decode cX12_railwayOf 76 = .ok (.ifCond .le 30, 3) := by decide +kernel
theorem s230_76 {d : Nat} {st : List Value} {σ : am_I} {ρ : am_R} {g : am_J} {τ : am_T} {Q : am_Q} {x0 x1 x2 x3 : Value} {v : Int32} : AW d 230 76 [x0, x1, x2, x3] (.int v :: st) σ ρ g τ Q = if v ≤ 0 then AW d 230 106 [x0, x1, x2, x3] (st) σ ρ g τ Q else AW d 230 79 [x0, x1, x2, x3] (st) σ ρ g τ Q := aw_br m230 d230_76 rfl rfl rfl
theorem d230_79 : decode cX12_railwayOf 79 = .ok (.aload_n 0, 1) := by decide +kernel
theorem s230_79 {d : Nat} {st : List Value} {σ : am_I} {ρ : am_R} {g : am_J} {τ : am_T} {Q : am_Q} {x1 x2 x3 : Value} {v : Nat} : AW d 230 79 [.ref v, x1, x2, x3] (st) σ ρ g τ Q = AW d 230 80 [.ref v, x1, x2, x3] (.ref v :: st) σ ρ g τ Q := aw_lc m230 d230_79 rfl rfl rfl
theorem d230_80 : decode cX12_railwayOf 80 = .ok (.iload_n 1, 1) := by decide +kernel
theorem s230_80 {d : Nat} {st : List Value} {σ : am_I} {ρ : am_R} {g : am_J} {τ : am_T} {Q : am_Q} {x0 x2 x3 : Value} {v : Int32} : AW d 230 80 [x0, .int v, x2, x3] (st) σ ρ g τ Q = AW d 230 81 [x0, .int v, x2, x3] (.int v :: st) σ ρ g τ Q := aw_lc m230 d230_80 rfl rfl rfl
theorem d230_81 : decode cX12_railwayOf 81 = .ok (.iload_n 3, 1) := by decide +kernel
theorem s230_81 {d : Nat} {st : List Value} {σ : am_I} {ρ : am_R} {g : am_J} {τ : am_T} {Q : am_Q} {x0 x1 x2 : Value} {v : Int32} : AW d 230 81 [x0, x1, x2, .int v] (st) σ ρ g τ Q = AW d 230 82 [x0, x1, x2, .int v] (.int v :: st) σ ρ g τ Q := aw_lc m230 d230_81 rfl rfl rfl
theorem d230_82 : decode cX12_railwayOf 82 = .ok (.iconst 1, 1) := by decide +kernel
theorem s230_82 {d : Nat} {st : List Value} {σ : am_I} {ρ : am_R} {g : am_J} {τ : am_T} {Q : am_Q} {x0 x1 x2 x3 : Value} : AW d 230 82 [x0, x1, x2, x3] (st) σ ρ g τ Q = AW d 230 83 [x0, x1, x2, x3] (.int 1 :: st) σ ρ g τ Q := aw_lc m230 d230_82 rfl rfl rfl
theorem d230_83 : decode cX12_railwayOf 83 = .ok (.isub, 1) := by decide +kernel
theorem s230_83 {d : Nat} {st : List Value} {σ : am_I} {ρ : am_R} {g : am_J} {τ : am_T} {Q : am_Q} {x0 x1 x2 x3 : Value} {v w : Int32} : AW d 230 83 [x0, x1, x2, x3] (.int w :: .int v :: st) σ ρ g τ Q = AW d 230 84 [x0, x1, x2, x3] (.int (v - w) :: st) σ ρ g τ Q := aw_lc m230 d230_83 rfl rfl rfl
theorem d230_84 : decode cX12_railwayOf 84 = .ok (.invokevirtual 407, 3) := by decide +kernel
theorem s230_84 {d : Nat} {st : List Value} {σ : am_I} {ρ : am_R} {g : am_J} {τ : am_T} {Q : am_Q} {x0 x1 x2 x3 : Value} {p0 : Nat} {p1 : Int32} {p2 : Int32} (ht : τ.1 p0 = 12) (hs : st.length ≤ 4) : AW (d + 1) 230 84 [x0, x1, x2, x3] (.int p2 :: .int p1 :: .ref p0 :: st) σ ρ g τ Q = AW d 229 0 [.ref p0, .int p1, .int p2, am_jk, am_jk, am_jk, am_jk] [] σ ρ g τ (fun r9 σ ρ g τ => AW (d + 1) 230 87 [x0, x1, x2, x3] (r9.toList ++ st) σ ρ g τ Q) := aw_cv m230 d230_84 rfl m229 rfl rfl (by decide) en229 ok229 rfl ht hs
theorem d230_87 : decode cX12_railwayOf 87 = .ok (.aload_n 0, 1) := by decide +kernel
theorem s230_87 {d : Nat} {st : List Value} {σ : am_I} {ρ : am_R} {g : am_J} {τ : am_T} {Q : am_Q} {x1 x2 x3 : Value} {v : Nat} : AW d 230 87 [.ref v, x1, x2, x3] (st) σ ρ g τ Q = AW d 230 88 [.ref v, x1, x2, x3] (.ref v :: st) σ ρ g τ Q := aw_lc m230 d230_87 rfl rfl rfl
theorem d230_88 : decode cX12_railwayOf 88 = .ok (.getfield 97, 3) := by decide +kernel
theorem s230_88 {d : Nat} {st : List Value} {σ : am_I} {ρ : am_R} {g : am_J} {τ : am_T} {Q : am_Q} {x0 x1 x2 x3 : Value} {a : Nat} (ht : τ.1 a = 12) : AW d 230 88 [x0, x1, x2, x3] (.ref a :: st) σ ρ g τ Q = AW d 230 91 [x0, x1, x2, x3] (va_rf (ρ a 29) :: st) σ ρ g τ Q := aw_gr m230 d230_88 rfl rfl rfl ht
theorem d230_91 : decode cX12_railwayOf 91 = .ok (.iload_n 1, 1) := by decide +kernel
theorem s230_91 {d : Nat} {st : List Value} {σ : am_I} {ρ : am_R} {g : am_J} {τ : am_T} {Q : am_Q} {x0 x2 x3 : Value} {v : Int32} : AW d 230 91 [x0, .int v, x2, x3] (st) σ ρ g τ Q = AW d 230 92 [x0, .int v, x2, x3] (.int v :: st) σ ρ g τ Q := aw_lc m230 d230_91 rfl rfl rfl
theorem d230_92 : decode cX12_railwayOf 92 = .ok (.iaload, 1) := by decide +kernel
theorem s230_92 {d : Nat} {st : List Value} {σ : am_I} {ρ : am_R} {g : am_J} {τ : am_T} {Q : am_Q} {x0 x1 x2 x3 : Value} {a : Nat} {j : Int32} (ht : τ.1 a = 15) (hj : am_inb j (τ.2.1 a) = true) : AW d 230 92 [x0, x1, x2, x3] (.int j :: .ref a :: st) σ ρ g τ Q = AW d 230 93 [x0, x1, x2, x3] (.int (σ a j.toNatClampNeg) :: st) σ ρ g τ Q := aw_ial m230 d230_92 rfl ht hj
theorem d230_93 : decode cX12_railwayOf 93 = .ok (.iload_n 3, 1) := by decide +kernel
theorem s230_93 {d : Nat} {st : List Value} {σ : am_I} {ρ : am_R} {g : am_J} {τ : am_T} {Q : am_Q} {x0 x1 x2 : Value} {v : Int32} : AW d 230 93 [x0, x1, x2, .int v] (st) σ ρ g τ Q = AW d 230 94 [x0, x1, x2, .int v] (.int v :: st) σ ρ g τ Q := aw_lc m230 d230_93 rfl rfl rfl
theorem d230_94 : decode cX12_railwayOf 94 = .ok (.iconst 1, 1) := by decide +kernel
theorem s230_94 {d : Nat} {st : List Value} {σ : am_I} {ρ : am_R} {g : am_J} {τ : am_T} {Q : am_Q} {x0 x1 x2 x3 : Value} : AW d 230 94 [x0, x1, x2, x3] (st) σ ρ g τ Q = AW d 230 95 [x0, x1, x2, x3] (.int 1 :: st) σ ρ g τ Q := aw_lc m230 d230_94 rfl rfl rfl
theorem d230_95 : decode cX12_railwayOf 95 = .ok (.isub, 1) := by decide +kernel
theorem s230_95 {d : Nat} {st : List Value} {σ : am_I} {ρ : am_R} {g : am_J} {τ : am_T} {Q : am_Q} {x0 x1 x2 x3 : Value} {v w : Int32} : AW d 230 95 [x0, x1, x2, x3] (.int w :: .int v :: st) σ ρ g τ Q = AW d 230 96 [x0, x1, x2, x3] (.int (v - w) :: st) σ ρ g τ Q := aw_lc m230 d230_95 rfl rfl rfl
theorem d230_96 : decode cX12_railwayOf 96 = .ok (.imul, 1) := by decide +kernel
theorem s230_96 {d : Nat} {st : List Value} {σ : am_I} {ρ : am_R} {g : am_J} {τ : am_T} {Q : am_Q} {x0 x1 x2 x3 : Value} {v w : Int32} : AW d 230 96 [x0, x1, x2, x3] (.int w :: .int v :: st) σ ρ g τ Q = AW d 230 97 [x0, x1, x2, x3] (.int (v * w) :: st) σ ρ g τ Q := aw_lc m230 d230_96 rfl rfl rfl
theorem d230_97 : decode cX12_railwayOf 97 = .ok (.if_icmp .lt 9, 3) := by decide +kernel
theorem s230_97 {d : Nat} {st : List Value} {σ : am_I} {ρ : am_R} {g : am_J} {τ : am_T} {Q : am_Q} {x0 x1 x2 x3 : Value} {v w : Int32} : AW d 230 97 [x0, x1, x2, x3] (.int w :: .int v :: st) σ ρ g τ Q = if v < w then AW d 230 106 [x0, x1, x2, x3] (st) σ ρ g τ Q else AW d 230 100 [x0, x1, x2, x3] (st) σ ρ g τ Q := aw_br m230 d230_97 rfl rfl rfl
theorem d230_100 : decode cX12_railwayOf 100 = .ok (.iinc 3 (-1), 3) := by decide +kernel
theorem s230_100 {d : Nat} {st : List Value} {σ : am_I} {ρ : am_R} {g : am_J} {τ : am_T} {Q : am_Q} {x0 x1 : Value} {v : Int32} {u : Int32} : AW d 230 100 [x0, x1, .int u, .int v] (st) σ ρ g τ Q = AW d 230 103 [x0, x1, .int u, .int (v + (-1))] (st) σ ρ g τ Q := aw_lc m230 d230_100 rfl rfl rfl
theorem d230_103 : decode cX12_railwayOf 103 = .ok (.goto (-28), 3) := by decide +kernel
theorem s230_103 {d : Nat} {st : List Value} {σ : am_I} {ρ : am_R} {g : am_J} {τ : am_T} {Q : am_Q} {x0 x1 x2 x3 : Value} : AW d 230 103 [x0, x1, x2, x3] (st) σ ρ g τ Q = AW d 230 75 [x0, x1, x2, x3] (st) σ ρ g τ Q := aw_lc m230 d230_103 rfl rfl rfl
theorem d230_106 : decode cX12_railwayOf 106 = .ok (.iload_n 3, 1) := by decide +kernel
theorem s230_106 {d : Nat} {st : List Value} {σ : am_I} {ρ : am_R} {g : am_J} {τ : am_T} {Q : am_Q} {x0 x1 x2 : Value} {v : Int32} : AW d 230 106 [x0, x1, x2, .int v] (st) σ ρ g τ Q = AW d 230 107 [x0, x1, x2, .int v] (.int v :: st) σ ρ g τ Q := aw_lc m230 d230_106 rfl rfl rfl
theorem d230_107 : decode cX12_railwayOf 107 = .ok (.sipush 400, 3) := by decide +kernel
theorem s230_107 {d : Nat} {st : List Value} {σ : am_I} {ρ : am_R} {g : am_J} {τ : am_T} {Q : am_Q} {x0 x1 x2 x3 : Value} : AW d 230 107 [x0, x1, x2, x3] (st) σ ρ g τ Q = AW d 230 110 [x0, x1, x2, x3] (.int 400 :: st) σ ρ g τ Q := aw_lc m230 d230_107 rfl rfl rfl
theorem d230_110 : decode cX12_railwayOf 110 = .ok (.if_icmp .le 8, 3) := by decide +kernel
theorem s230_110 {d : Nat} {st : List Value} {σ : am_I} {ρ : am_R} {g : am_J} {τ : am_T} {Q : am_Q} {x0 x1 x2 x3 : Value} {v w : Int32} : AW d 230 110 [x0, x1, x2, x3] (.int w :: .int v :: st) σ ρ g τ Q = if v ≤ w then AW d 230 118 [x0, x1, x2, x3] (st) σ ρ g τ Q else AW d 230 113 [x0, x1, x2, x3] (st) σ ρ g τ Q := aw_br m230 d230_110 rfl rfl rfl
theorem d230_113 : decode cX12_railwayOf 113 = .ok (.bipush (-3), 2) := by decide +kernel
theorem s230_113 {d : Nat} {st : List Value} {σ : am_I} {ρ : am_R} {g : am_J} {τ : am_T} {Q : am_Q} {x0 x1 x2 x3 : Value} : AW d 230 113 [x0, x1, x2, x3] (st) σ ρ g τ Q = AW d 230 115 [x0, x1, x2, x3] (.int (-3) :: st) σ ρ g τ Q := aw_lc m230 d230_113 rfl rfl rfl
theorem d230_115 : decode cX12_railwayOf 115 = .ok (.goto 4, 3) := by decide +kernel
theorem s230_115 {d : Nat} {st : List Value} {σ : am_I} {ρ : am_R} {g : am_J} {τ : am_T} {Q : am_Q} {x0 x1 x2 x3 : Value} : AW d 230 115 [x0, x1, x2, x3] (st) σ ρ g τ Q = AW d 230 119 [x0, x1, x2, x3] (st) σ ρ g τ Q := aw_lc m230 d230_115 rfl rfl rfl
theorem d230_118 : decode cX12_railwayOf 118 = .ok (.iload_n 3, 1) := by decide +kernel
theorem s230_118 {d : Nat} {st : List Value} {σ : am_I} {ρ : am_R} {g : am_J} {τ : am_T} {Q : am_Q} {x0 x1 x2 : Value} {v : Int32} : AW d 230 118 [x0, x1, x2, .int v] (st) σ ρ g τ Q = AW d 230 119 [x0, x1, x2, .int v] (.int v :: st) σ ρ g τ Q := aw_lc m230 d230_118 rfl rfl rfl
theorem d230_119 : decode cX12_railwayOf 119 = .ok (.ireturn, 1) := by decide +kernel
theorem s230_119 {d : Nat} {σ : am_I} {ρ : am_R} {g : am_J} {τ : am_T} {Q : am_Q} {x0 x1 x2 x3 : Value} {v : Int32} : AW d 230 119 [x0, x1, x2, x3] ([.int v]) σ ρ g τ Q = Q (some (.int v)) σ ρ g τ := aw_ri m230 d230_119 rfl
theorem d231_0 : decode cX12_paper 0 = .ok (.iload_n 1, 1) := by decide +kernel
theorem s231_0 {d : Nat} {st : List Value} {σ : am_I} {ρ : am_R} {g : am_J} {τ : am_T} {Q : am_Q} {x0 x2 x3 x4 x5 : Value} {v : Int32} : AW d 231 0 [x0, .int v, x2, x3, x4, x5] (st) σ ρ g τ Q = AW d 231 1 [x0, .int v, x2, x3, x4, x5] (.int v :: st) σ ρ g τ Q := aw_lc m231 d231_0 rfl rfl rfl
theorem d231_1 : decode cX12_paper 1 = .ok (.iconst 0, 1) := by decide +kernel
theorem s231_1 {d : Nat} {st : List Value} {σ : am_I} {ρ : am_R} {g : am_J} {τ : am_T} {Q : am_Q} {x0 x1 x2 x3 x4 x5 : Value} : AW d 231 1 [x0, x1, x2, x3, x4, x5] (st) σ ρ g τ Q = AW d 231 2 [x0, x1, x2, x3, x4, x5] (.int 0 :: st) σ ρ g τ Q := aw_lc m231 d231_1 rfl rfl rfl
theorem d231_2 : decode cX12_paper 2 = .ok (.iconst 1, 1) := by decide +kernel
theorem s231_2 {d : Nat} {st : List Value} {σ : am_I} {ρ : am_R} {g : am_J} {τ : am_T} {Q : am_Q} {x0 x1 x2 x3 x4 x5 : Value} : AW d 231 2 [x0, x1, x2, x3, x4, x5] (st) σ ρ g τ Q = AW d 231 3 [x0, x1, x2, x3, x4, x5] (.int 1 :: st) σ ρ g τ Q := aw_lc m231 d231_2 rfl rfl rfl
theorem d231_3 : decode cX12_paper 3 = .ok (.invokestatic 194, 3) := by decide +kernel
theorem s231_3 {d : Nat} {st : List Value} {σ : am_I} {ρ : am_R} {g : am_J} {τ : am_T} {Q : am_Q} {x0 x1 x2 x3 x4 x5 : Value} {p0 : Int32} {p1 : Int32} {p2 : Int32} (hs : st.length ≤ 4) : AW (d + 1) 231 3 [x0, x1, x2, x3, x4, x5] (.int p2 :: .int p1 :: .int p0 :: st) σ ρ g τ Q = AW d 165 0 [.int p0, .int p1, .int p2] [] σ ρ g τ (fun r9 σ ρ g τ => AW (d + 1) 231 6 [x0, x1, x2, x3, x4, x5] (r9.toList ++ st) σ ρ g τ Q) := aw_cs m231 d231_3 rfl (by simp only [List.length_cons]; omega) rfl rfl en165 ok165 rfl hs
theorem d231_6 : decode cX12_paper 6 = .ok (.ifCond .eq 32, 3) := by decide +kernel
theorem s231_6 {d : Nat} {st : List Value} {σ : am_I} {ρ : am_R} {g : am_J} {τ : am_T} {Q : am_Q} {x0 x1 x2 x3 x4 x5 : Value} {v : Int32} : AW d 231 6 [x0, x1, x2, x3, x4, x5] (.int v :: st) σ ρ g τ Q = if v = 0 then AW d 231 38 [x0, x1, x2, x3, x4, x5] (st) σ ρ g τ Q else AW d 231 9 [x0, x1, x2, x3, x4, x5] (st) σ ρ g τ Q := aw_br m231 d231_6 rfl rfl rfl
theorem d231_9 : decode cX12_paper 9 = .ok (.iload_n 2, 1) := by decide +kernel
theorem s231_9 {d : Nat} {st : List Value} {σ : am_I} {ρ : am_R} {g : am_J} {τ : am_T} {Q : am_Q} {x0 x1 x3 x4 x5 : Value} {v : Int32} : AW d 231 9 [x0, x1, .int v, x3, x4, x5] (st) σ ρ g τ Q = AW d 231 10 [x0, x1, .int v, x3, x4, x5] (.int v :: st) σ ρ g τ Q := aw_lc m231 d231_9 rfl rfl rfl
theorem d231_10 : decode cX12_paper 10 = .ok (.iconst 1, 1) := by decide +kernel
theorem s231_10 {d : Nat} {st : List Value} {σ : am_I} {ρ : am_R} {g : am_J} {τ : am_T} {Q : am_Q} {x0 x1 x2 x3 x4 x5 : Value} : AW d 231 10 [x0, x1, x2, x3, x4, x5] (st) σ ρ g τ Q = AW d 231 11 [x0, x1, x2, x3, x4, x5] (.int 1 :: st) σ ρ g τ Q := aw_lc m231 d231_10 rfl rfl rfl
theorem d231_11 : decode cX12_paper 11 = .ok (.sipush 999, 3) := by decide +kernel
theorem s231_11 {d : Nat} {st : List Value} {σ : am_I} {ρ : am_R} {g : am_J} {τ : am_T} {Q : am_Q} {x0 x1 x2 x3 x4 x5 : Value} : AW d 231 11 [x0, x1, x2, x3, x4, x5] (st) σ ρ g τ Q = AW d 231 14 [x0, x1, x2, x3, x4, x5] (.int 999 :: st) σ ρ g τ Q := aw_lc m231 d231_11 rfl rfl rfl
theorem d231_14 : decode cX12_paper 14 = .ok (.invokestatic 194, 3) := by decide +kernel
theorem s231_14 {d : Nat} {st : List Value} {σ : am_I} {ρ : am_R} {g : am_J} {τ : am_T} {Q : am_Q} {x0 x1 x2 x3 x4 x5 : Value} {p0 : Int32} {p1 : Int32} {p2 : Int32} (hs : st.length ≤ 4) : AW (d + 1) 231 14 [x0, x1, x2, x3, x4, x5] (.int p2 :: .int p1 :: .int p0 :: st) σ ρ g τ Q = AW d 165 0 [.int p0, .int p1, .int p2] [] σ ρ g τ (fun r9 σ ρ g τ => AW (d + 1) 231 17 [x0, x1, x2, x3, x4, x5] (r9.toList ++ st) σ ρ g τ Q) := aw_cs m231 d231_14 rfl (by simp only [List.length_cons]; omega) rfl rfl en165 ok165 rfl hs
theorem d231_17 : decode cX12_paper 17 = .ok (.ifCond .eq 21, 3) := by decide +kernel
theorem s231_17 {d : Nat} {st : List Value} {σ : am_I} {ρ : am_R} {g : am_J} {τ : am_T} {Q : am_Q} {x0 x1 x2 x3 x4 x5 : Value} {v : Int32} : AW d 231 17 [x0, x1, x2, x3, x4, x5] (.int v :: st) σ ρ g τ Q = if v = 0 then AW d 231 38 [x0, x1, x2, x3, x4, x5] (st) σ ρ g τ Q else AW d 231 20 [x0, x1, x2, x3, x4, x5] (st) σ ρ g τ Q := aw_br m231 d231_17 rfl rfl rfl
theorem d231_20 : decode cX12_paper 20 = .ok (.iload_n 3, 1) := by decide +kernel
theorem s231_20 {d : Nat} {st : List Value} {σ : am_I} {ρ : am_R} {g : am_J} {τ : am_T} {Q : am_Q} {x0 x1 x2 x4 x5 : Value} {v : Int32} : AW d 231 20 [x0, x1, x2, .int v, x4, x5] (st) σ ρ g τ Q = AW d 231 21 [x0, x1, x2, .int v, x4, x5] (.int v :: st) σ ρ g τ Q := aw_lc m231 d231_20 rfl rfl rfl
theorem d231_21 : decode cX12_paper 21 = .ok (.iconst 0, 1) := by decide +kernel
theorem s231_21 {d : Nat} {st : List Value} {σ : am_I} {ρ : am_R} {g : am_J} {τ : am_T} {Q : am_Q} {x0 x1 x2 x3 x4 x5 : Value} : AW d 231 21 [x0, x1, x2, x3, x4, x5] (st) σ ρ g τ Q = AW d 231 22 [x0, x1, x2, x3, x4, x5] (.int 0 :: st) σ ρ g τ Q := aw_lc m231 d231_21 rfl rfl rfl
theorem d231_22 : decode cX12_paper 22 = .ok (.bipush 49, 2) := by decide +kernel
theorem s231_22 {d : Nat} {st : List Value} {σ : am_I} {ρ : am_R} {g : am_J} {τ : am_T} {Q : am_Q} {x0 x1 x2 x3 x4 x5 : Value} : AW d 231 22 [x0, x1, x2, x3, x4, x5] (st) σ ρ g τ Q = AW d 231 24 [x0, x1, x2, x3, x4, x5] (.int 49 :: st) σ ρ g τ Q := aw_lc m231 d231_22 rfl rfl rfl
theorem d231_24 : decode cX12_paper 24 = .ok (.invokestatic 194, 3) := by decide +kernel
theorem s231_24 {d : Nat} {st : List Value} {σ : am_I} {ρ : am_R} {g : am_J} {τ : am_T} {Q : am_Q} {x0 x1 x2 x3 x4 x5 : Value} {p0 : Int32} {p1 : Int32} {p2 : Int32} (hs : st.length ≤ 4) : AW (d + 1) 231 24 [x0, x1, x2, x3, x4, x5] (.int p2 :: .int p1 :: .int p0 :: st) σ ρ g τ Q = AW d 165 0 [.int p0, .int p1, .int p2] [] σ ρ g τ (fun r9 σ ρ g τ => AW (d + 1) 231 27 [x0, x1, x2, x3, x4, x5] (r9.toList ++ st) σ ρ g τ Q) := aw_cs m231 d231_24 rfl (by simp only [List.length_cons]; omega) rfl rfl en165 ok165 rfl hs
theorem d231_27 : decode cX12_paper 27 = .ok (.ifCond .eq 11, 3) := by decide +kernel
theorem s231_27 {d : Nat} {st : List Value} {σ : am_I} {ρ : am_R} {g : am_J} {τ : am_T} {Q : am_Q} {x0 x1 x2 x3 x4 x5 : Value} {v : Int32} : AW d 231 27 [x0, x1, x2, x3, x4, x5] (.int v :: st) σ ρ g τ Q = if v = 0 then AW d 231 38 [x0, x1, x2, x3, x4, x5] (st) σ ρ g τ Q else AW d 231 30 [x0, x1, x2, x3, x4, x5] (st) σ ρ g τ Q := aw_br m231 d231_27 rfl rfl rfl
theorem d231_30 : decode cX12_paper 30 = .ok (.iload 4, 2) := by decide +kernel
theorem s231_30 {d : Nat} {st : List Value} {σ : am_I} {ρ : am_R} {g : am_J} {τ : am_T} {Q : am_Q} {x0 x1 x2 x3 x5 : Value} {v : Int32} : AW d 231 30 [x0, x1, x2, x3, .int v, x5] (st) σ ρ g τ Q = AW d 231 32 [x0, x1, x2, x3, .int v, x5] (.int v :: st) σ ρ g τ Q := aw_lc m231 d231_30 rfl rfl rfl
theorem d231_32 : decode cX12_paper 32 = .ok (.invokestatic 216, 3) := by decide +kernel
theorem s231_32 {d : Nat} {st : List Value} {σ : am_I} {ρ : am_R} {g : am_J} {τ : am_T} {Q : am_Q} {x0 x1 x2 x3 x4 x5 : Value} {p0 : Int32} (hs : st.length ≤ 4) : AW (d + 1) 231 32 [x0, x1, x2, x3, x4, x5] (.int p0 :: st) σ ρ g τ Q = AW d 166 0 [.int p0] [] σ ρ g τ (fun r9 σ ρ g τ => AW (d + 1) 231 35 [x0, x1, x2, x3, x4, x5] (r9.toList ++ st) σ ρ g τ Q) := aw_cs m231 d231_32 rfl (by simp only [List.length_cons]; omega) rfl rfl en166 ok166 rfl hs
theorem d231_35 : decode cX12_paper 35 = .ok (.ifCond .ne 5, 3) := by decide +kernel
theorem s231_35 {d : Nat} {st : List Value} {σ : am_I} {ρ : am_R} {g : am_J} {τ : am_T} {Q : am_Q} {x0 x1 x2 x3 x4 x5 : Value} {v : Int32} : AW d 231 35 [x0, x1, x2, x3, x4, x5] (.int v :: st) σ ρ g τ Q = if ¬ v = 0 then AW d 231 40 [x0, x1, x2, x3, x4, x5] (st) σ ρ g τ Q else AW d 231 38 [x0, x1, x2, x3, x4, x5] (st) σ ρ g τ Q := aw_br m231 d231_35 rfl rfl rfl
theorem d231_38 : decode cX12_paper 38 = .ok (.iconst (-1), 1) := by decide +kernel
theorem s231_38 {d : Nat} {st : List Value} {σ : am_I} {ρ : am_R} {g : am_J} {τ : am_T} {Q : am_Q} {x0 x1 x2 x3 x4 x5 : Value} : AW d 231 38 [x0, x1, x2, x3, x4, x5] (st) σ ρ g τ Q = AW d 231 39 [x0, x1, x2, x3, x4, x5] (.int (-1) :: st) σ ρ g τ Q := aw_lc m231 d231_38 rfl rfl rfl
theorem d231_39 : decode cX12_paper 39 = .ok (.ireturn, 1) := by decide +kernel
theorem s231_39 {d : Nat} {σ : am_I} {ρ : am_R} {g : am_J} {τ : am_T} {Q : am_Q} {x0 x1 x2 x3 x4 x5 : Value} {v : Int32} : AW d 231 39 [x0, x1, x2, x3, x4, x5] ([.int v]) σ ρ g τ Q = Q (some (.int v)) σ ρ g τ := aw_ri m231 d231_39 rfl
theorem d231_40 : decode cX12_paper 40 = .ok (.aload_n 0, 1) := by decide +kernel
theorem s231_40 {d : Nat} {st : List Value} {σ : am_I} {ρ : am_R} {g : am_J} {τ : am_T} {Q : am_Q} {x1 x2 x3 x4 x5 : Value} {v : Nat} : AW d 231 40 [.ref v, x1, x2, x3, x4, x5] (st) σ ρ g τ Q = AW d 231 41 [.ref v, x1, x2, x3, x4, x5] (.ref v :: st) σ ρ g τ Q := aw_lc m231 d231_40 rfl rfl rfl
theorem d231_41 : decode cX12_paper 41 = .ok (.getfield 9, 3) := by decide +kernel
theorem s231_41 {d : Nat} {st : List Value} {σ : am_I} {ρ : am_R} {g : am_J} {τ : am_T} {Q : am_Q} {x0 x1 x2 x3 x4 x5 : Value} {a : Nat} (ht : τ.1 a = 12) : AW d 231 41 [x0, x1, x2, x3, x4, x5] (.ref a :: st) σ ρ g τ Q = AW d 231 44 [x0, x1, x2, x3, x4, x5] (va_rf (ρ a 0) :: st) σ ρ g τ Q := aw_gr m231 d231_41 rfl rfl rfl ht
theorem d231_44 : decode cX12_paper 44 = .ok (.iconst 5, 1) := by decide +kernel
theorem s231_44 {d : Nat} {st : List Value} {σ : am_I} {ρ : am_R} {g : am_J} {τ : am_T} {Q : am_Q} {x0 x1 x2 x3 x4 x5 : Value} : AW d 231 44 [x0, x1, x2, x3, x4, x5] (st) σ ρ g τ Q = AW d 231 45 [x0, x1, x2, x3, x4, x5] (.int 5 :: st) σ ρ g τ Q := aw_lc m231 d231_44 rfl rfl rfl
theorem d231_45 : decode cX12_paper 45 = .ok (.iaload, 1) := by decide +kernel
theorem s231_45 {d : Nat} {st : List Value} {σ : am_I} {ρ : am_R} {g : am_J} {τ : am_T} {Q : am_Q} {x0 x1 x2 x3 x4 x5 : Value} {a : Nat} {j : Int32} (ht : τ.1 a = 15) (hj : am_inb j (τ.2.1 a) = true) : AW d 231 45 [x0, x1, x2, x3, x4, x5] (.int j :: .ref a :: st) σ ρ g τ Q = AW d 231 46 [x0, x1, x2, x3, x4, x5] (.int (σ a j.toNatClampNeg) :: st) σ ρ g τ Q := aw_ial m231 d231_45 rfl ht hj
theorem d231_46 : decode cX12_paper 46 = .ok (.bipush 20, 2) := by decide +kernel
theorem s231_46 {d : Nat} {st : List Value} {σ : am_I} {ρ : am_R} {g : am_J} {τ : am_T} {Q : am_Q} {x0 x1 x2 x3 x4 x5 : Value} : AW d 231 46 [x0, x1, x2, x3, x4, x5] (st) σ ρ g τ Q = AW d 231 48 [x0, x1, x2, x3, x4, x5] (.int 20 :: st) σ ρ g τ Q := aw_lc m231 d231_46 rfl rfl rfl
theorem d231_48 : decode cX12_paper 48 = .ok (.if_icmp .ne 6, 3) := by decide +kernel
theorem s231_48 {d : Nat} {st : List Value} {σ : am_I} {ρ : am_R} {g : am_J} {τ : am_T} {Q : am_Q} {x0 x1 x2 x3 x4 x5 : Value} {v w : Int32} : AW d 231 48 [x0, x1, x2, x3, x4, x5] (.int w :: .int v :: st) σ ρ g τ Q = if ¬ v = w then AW d 231 54 [x0, x1, x2, x3, x4, x5] (st) σ ρ g τ Q else AW d 231 51 [x0, x1, x2, x3, x4, x5] (st) σ ρ g τ Q := aw_br m231 d231_48 rfl rfl rfl
theorem d231_51 : decode cX12_paper 51 = .ok (.bipush (-2), 2) := by decide +kernel
theorem s231_51 {d : Nat} {st : List Value} {σ : am_I} {ρ : am_R} {g : am_J} {τ : am_T} {Q : am_Q} {x0 x1 x2 x3 x4 x5 : Value} : AW d 231 51 [x0, x1, x2, x3, x4, x5] (st) σ ρ g τ Q = AW d 231 53 [x0, x1, x2, x3, x4, x5] (.int (-2) :: st) σ ρ g τ Q := aw_lc m231 d231_51 rfl rfl rfl
theorem d231_53 : decode cX12_paper 53 = .ok (.ireturn, 1) := by decide +kernel
theorem s231_53 {d : Nat} {σ : am_I} {ρ : am_R} {g : am_J} {τ : am_T} {Q : am_Q} {x0 x1 x2 x3 x4 x5 : Value} {v : Int32} : AW d 231 53 [x0, x1, x2, x3, x4, x5] ([.int v]) σ ρ g τ Q = Q (some (.int v)) σ ρ g τ := aw_ri m231 d231_53 rfl
theorem d231_54 : decode cX12_paper 54 = .ok (.aload_n 0, 1) := by decide +kernel
theorem s231_54 {d : Nat} {st : List Value} {σ : am_I} {ρ : am_R} {g : am_J} {τ : am_T} {Q : am_Q} {x1 x2 x3 x4 x5 : Value} {v : Nat} : AW d 231 54 [.ref v, x1, x2, x3, x4, x5] (st) σ ρ g τ Q = AW d 231 55 [.ref v, x1, x2, x3, x4, x5] (.ref v :: st) σ ρ g τ Q := aw_lc m231 d231_54 rfl rfl rfl
theorem d231_55 : decode cX12_paper 55 = .ok (.getfield 9, 3) := by decide +kernel
theorem s231_55 {d : Nat} {st : List Value} {σ : am_I} {ρ : am_R} {g : am_J} {τ : am_T} {Q : am_Q} {x0 x1 x2 x3 x4 x5 : Value} {a : Nat} (ht : τ.1 a = 12) : AW d 231 55 [x0, x1, x2, x3, x4, x5] (.ref a :: st) σ ρ g τ Q = AW d 231 58 [x0, x1, x2, x3, x4, x5] (va_rf (ρ a 0) :: st) σ ρ g τ Q := aw_gr m231 d231_55 rfl rfl rfl ht
theorem d231_58 : decode cX12_paper 58 = .ok (.iconst 5, 1) := by decide +kernel
theorem s231_58 {d : Nat} {st : List Value} {σ : am_I} {ρ : am_R} {g : am_J} {τ : am_T} {Q : am_Q} {x0 x1 x2 x3 x4 x5 : Value} : AW d 231 58 [x0, x1, x2, x3, x4, x5] (st) σ ρ g τ Q = AW d 231 59 [x0, x1, x2, x3, x4, x5] (.int 5 :: st) σ ρ g τ Q := aw_lc m231 d231_58 rfl rfl rfl
theorem d231_59 : decode cX12_paper 59 = .ok (.iaload, 1) := by decide +kernel
theorem s231_59 {d : Nat} {st : List Value} {σ : am_I} {ρ : am_R} {g : am_J} {τ : am_T} {Q : am_Q} {x0 x1 x2 x3 x4 x5 : Value} {a : Nat} {j : Int32} (ht : τ.1 a = 15) (hj : am_inb j (τ.2.1 a) = true) : AW d 231 59 [x0, x1, x2, x3, x4, x5] (.int j :: .ref a :: st) σ ρ g τ Q = AW d 231 60 [x0, x1, x2, x3, x4, x5] (.int (σ a j.toNatClampNeg) :: st) σ ρ g τ Q := aw_ial m231 d231_59 rfl ht hj
theorem d231_60 : decode cX12_paper 60 = .ok (.istore 5, 2) := by decide +kernel
theorem s231_60 {d : Nat} {st : List Value} {σ : am_I} {ρ : am_R} {g : am_J} {τ : am_T} {Q : am_Q} {x0 x1 x2 x3 x5 : Value} {v : Int32} {u : Int32} : AW d 231 60 [x0, x1, x2, x3, .int u, x5] (.int v :: st) σ ρ g τ Q = AW d 231 62 [x0, x1, x2, x3, .int u, .int v] (st) σ ρ g τ Q := aw_lc m231 d231_60 rfl rfl rfl
theorem d231_62 : decode cX12_paper 62 = .ok (.aload_n 0, 1) := by decide +kernel
theorem s231_62 {d : Nat} {st : List Value} {σ : am_I} {ρ : am_R} {g : am_J} {τ : am_T} {Q : am_Q} {x1 x2 x3 x4 x5 : Value} {v : Nat} : AW d 231 62 [.ref v, x1, x2, x3, x4, x5] (st) σ ρ g τ Q = AW d 231 63 [.ref v, x1, x2, x3, x4, x5] (.ref v :: st) σ ρ g τ Q := aw_lc m231 d231_62 rfl rfl rfl
theorem d231_63 : decode cX12_paper 63 = .ok (.getfield 100, 3) := by decide +kernel
theorem s231_63 {d : Nat} {st : List Value} {σ : am_I} {ρ : am_R} {g : am_J} {τ : am_T} {Q : am_Q} {x0 x1 x2 x3 x4 x5 : Value} {a : Nat} (ht : τ.1 a = 12) : AW d 231 63 [x0, x1, x2, x3, x4, x5] (.ref a :: st) σ ρ g τ Q = AW d 231 66 [x0, x1, x2, x3, x4, x5] (va_rf (ρ a 30) :: st) σ ρ g τ Q := aw_gr m231 d231_63 rfl rfl rfl ht
theorem d231_66 : decode cX12_paper 66 = .ok (.iload 5, 2) := by decide +kernel
theorem s231_66 {d : Nat} {st : List Value} {σ : am_I} {ρ : am_R} {g : am_J} {τ : am_T} {Q : am_Q} {x0 x1 x2 x3 x4 : Value} {v : Int32} : AW d 231 66 [x0, x1, x2, x3, x4, .int v] (st) σ ρ g τ Q = AW d 231 68 [x0, x1, x2, x3, x4, .int v] (.int v :: st) σ ρ g τ Q := aw_lc m231 d231_66 rfl rfl rfl
theorem d231_68 : decode cX12_paper 68 = .ok (.iload_n 1, 1) := by decide +kernel
theorem s231_68 {d : Nat} {st : List Value} {σ : am_I} {ρ : am_R} {g : am_J} {τ : am_T} {Q : am_Q} {x0 x2 x3 x4 x5 : Value} {v : Int32} : AW d 231 68 [x0, .int v, x2, x3, x4, x5] (st) σ ρ g τ Q = AW d 231 69 [x0, .int v, x2, x3, x4, x5] (.int v :: st) σ ρ g τ Q := aw_lc m231 d231_68 rfl rfl rfl
theorem d231_69 : decode cX12_paper 69 = .ok (.iastore, 1) := by decide +kernel
theorem s231_69 {d : Nat} {st : List Value} {σ : am_I} {ρ : am_R} {g : am_J} {τ : am_T} {Q : am_Q} {x0 x1 x2 x3 x4 x5 : Value} {a : Nat} {j v : Int32} (ht : τ.1 a = 15) (ha : a < am_BG) (hj : am_inb j (τ.2.1 a) = true) : AW d 231 69 [x0, x1, x2, x3, x4, x5] (.int v :: .int j :: .ref a :: st) σ ρ g τ Q = AW d 231 70 [x0, x1, x2, x3, x4, x5] (st) (am_u σ a j.toNatClampNeg v) ρ g τ Q := aw_ias m231 d231_69 rfl ht ha hj
theorem d231_70 : decode cX12_paper 70 = .ok (.aload_n 0, 1) := by decide +kernel
theorem s231_70 {d : Nat} {st : List Value} {σ : am_I} {ρ : am_R} {g : am_J} {τ : am_T} {Q : am_Q} {x1 x2 x3 x4 x5 : Value} {v : Nat} : AW d 231 70 [.ref v, x1, x2, x3, x4, x5] (st) σ ρ g τ Q = AW d 231 71 [.ref v, x1, x2, x3, x4, x5] (.ref v :: st) σ ρ g τ Q := aw_lc m231 d231_70 rfl rfl rfl
theorem d231_71 : decode cX12_paper 71 = .ok (.getfield 103, 3) := by decide +kernel
theorem s231_71 {d : Nat} {st : List Value} {σ : am_I} {ρ : am_R} {g : am_J} {τ : am_T} {Q : am_Q} {x0 x1 x2 x3 x4 x5 : Value} {a : Nat} (ht : τ.1 a = 12) : AW d 231 71 [x0, x1, x2, x3, x4, x5] (.ref a :: st) σ ρ g τ Q = AW d 231 74 [x0, x1, x2, x3, x4, x5] (va_rf (ρ a 31) :: st) σ ρ g τ Q := aw_gr m231 d231_71 rfl rfl rfl ht
theorem d231_74 : decode cX12_paper 74 = .ok (.iload 5, 2) := by decide +kernel
theorem s231_74 {d : Nat} {st : List Value} {σ : am_I} {ρ : am_R} {g : am_J} {τ : am_T} {Q : am_Q} {x0 x1 x2 x3 x4 : Value} {v : Int32} : AW d 231 74 [x0, x1, x2, x3, x4, .int v] (st) σ ρ g τ Q = AW d 231 76 [x0, x1, x2, x3, x4, .int v] (.int v :: st) σ ρ g τ Q := aw_lc m231 d231_74 rfl rfl rfl
theorem d231_76 : decode cX12_paper 76 = .ok (.iload_n 2, 1) := by decide +kernel
theorem s231_76 {d : Nat} {st : List Value} {σ : am_I} {ρ : am_R} {g : am_J} {τ : am_T} {Q : am_Q} {x0 x1 x3 x4 x5 : Value} {v : Int32} : AW d 231 76 [x0, x1, .int v, x3, x4, x5] (st) σ ρ g τ Q = AW d 231 77 [x0, x1, .int v, x3, x4, x5] (.int v :: st) σ ρ g τ Q := aw_lc m231 d231_76 rfl rfl rfl
theorem d231_77 : decode cX12_paper 77 = .ok (.iastore, 1) := by decide +kernel
theorem s231_77 {d : Nat} {st : List Value} {σ : am_I} {ρ : am_R} {g : am_J} {τ : am_T} {Q : am_Q} {x0 x1 x2 x3 x4 x5 : Value} {a : Nat} {j v : Int32} (ht : τ.1 a = 15) (ha : a < am_BG) (hj : am_inb j (τ.2.1 a) = true) : AW d 231 77 [x0, x1, x2, x3, x4, x5] (.int v :: .int j :: .ref a :: st) σ ρ g τ Q = AW d 231 78 [x0, x1, x2, x3, x4, x5] (st) (am_u σ a j.toNatClampNeg v) ρ g τ Q := aw_ias m231 d231_77 rfl ht ha hj
theorem d231_78 : decode cX12_paper 78 = .ok (.aload_n 0, 1) := by decide +kernel
theorem s231_78 {d : Nat} {st : List Value} {σ : am_I} {ρ : am_R} {g : am_J} {τ : am_T} {Q : am_Q} {x1 x2 x3 x4 x5 : Value} {v : Nat} : AW d 231 78 [.ref v, x1, x2, x3, x4, x5] (st) σ ρ g τ Q = AW d 231 79 [.ref v, x1, x2, x3, x4, x5] (.ref v :: st) σ ρ g τ Q := aw_lc m231 d231_78 rfl rfl rfl
theorem d231_79 : decode cX12_paper 79 = .ok (.getfield 106, 3) := by decide +kernel
theorem s231_79 {d : Nat} {st : List Value} {σ : am_I} {ρ : am_R} {g : am_J} {τ : am_T} {Q : am_Q} {x0 x1 x2 x3 x4 x5 : Value} {a : Nat} (ht : τ.1 a = 12) : AW d 231 79 [x0, x1, x2, x3, x4, x5] (.ref a :: st) σ ρ g τ Q = AW d 231 82 [x0, x1, x2, x3, x4, x5] (va_rf (ρ a 32) :: st) σ ρ g τ Q := aw_gr m231 d231_79 rfl rfl rfl ht
theorem d231_82 : decode cX12_paper 82 = .ok (.iload 5, 2) := by decide +kernel
theorem s231_82 {d : Nat} {st : List Value} {σ : am_I} {ρ : am_R} {g : am_J} {τ : am_T} {Q : am_Q} {x0 x1 x2 x3 x4 : Value} {v : Int32} : AW d 231 82 [x0, x1, x2, x3, x4, .int v] (st) σ ρ g τ Q = AW d 231 84 [x0, x1, x2, x3, x4, .int v] (.int v :: st) σ ρ g τ Q := aw_lc m231 d231_82 rfl rfl rfl
theorem d231_84 : decode cX12_paper 84 = .ok (.iload_n 3, 1) := by decide +kernel
theorem s231_84 {d : Nat} {st : List Value} {σ : am_I} {ρ : am_R} {g : am_J} {τ : am_T} {Q : am_Q} {x0 x1 x2 x4 x5 : Value} {v : Int32} : AW d 231 84 [x0, x1, x2, .int v, x4, x5] (st) σ ρ g τ Q = AW d 231 85 [x0, x1, x2, .int v, x4, x5] (.int v :: st) σ ρ g τ Q := aw_lc m231 d231_84 rfl rfl rfl
theorem d231_85 : decode cX12_paper 85 = .ok (.bipush 10, 2) := by decide +kernel
theorem s231_85 {d : Nat} {st : List Value} {σ : am_I} {ρ : am_R} {g : am_J} {τ : am_T} {Q : am_Q} {x0 x1 x2 x3 x4 x5 : Value} : AW d 231 85 [x0, x1, x2, x3, x4, x5] (st) σ ρ g τ Q = AW d 231 87 [x0, x1, x2, x3, x4, x5] (.int 10 :: st) σ ρ g τ Q := aw_lc m231 d231_85 rfl rfl rfl
theorem d231_87 : decode cX12_paper 87 = .ok (.idiv, 1) := by decide +kernel
theorem s231_87 {d : Nat} {st : List Value} {σ : am_I} {ρ : am_R} {g : am_J} {τ : am_T} {Q : am_Q} {x0 x1 x2 x3 x4 x5 : Value} {v w : Int32} (h0 : ¬ w = 0) : AW d 231 87 [x0, x1, x2, x3, x4, x5] (.int w :: .int v :: st) σ ρ g τ Q = AW d 231 88 [x0, x1, x2, x3, x4, x5] (.int (v / w) :: st) σ ρ g τ Q := aw_div m231 d231_87 h0 rfl
theorem d231_88 : decode cX12_paper 88 = .ok (.iastore, 1) := by decide +kernel
theorem s231_88 {d : Nat} {st : List Value} {σ : am_I} {ρ : am_R} {g : am_J} {τ : am_T} {Q : am_Q} {x0 x1 x2 x3 x4 x5 : Value} {a : Nat} {j v : Int32} (ht : τ.1 a = 15) (ha : a < am_BG) (hj : am_inb j (τ.2.1 a) = true) : AW d 231 88 [x0, x1, x2, x3, x4, x5] (.int v :: .int j :: .ref a :: st) σ ρ g τ Q = AW d 231 89 [x0, x1, x2, x3, x4, x5] (st) (am_u σ a j.toNatClampNeg v) ρ g τ Q := aw_ias m231 d231_88 rfl ht ha hj
theorem d231_89 : decode cX12_paper 89 = .ok (.aload_n 0, 1) := by decide +kernel
theorem s231_89 {d : Nat} {st : List Value} {σ : am_I} {ρ : am_R} {g : am_J} {τ : am_T} {Q : am_Q} {x1 x2 x3 x4 x5 : Value} {v : Nat} : AW d 231 89 [.ref v, x1, x2, x3, x4, x5] (st) σ ρ g τ Q = AW d 231 90 [.ref v, x1, x2, x3, x4, x5] (.ref v :: st) σ ρ g τ Q := aw_lc m231 d231_89 rfl rfl rfl
theorem d231_90 : decode cX12_paper 90 = .ok (.getfield 109, 3) := by decide +kernel
theorem s231_90 {d : Nat} {st : List Value} {σ : am_I} {ρ : am_R} {g : am_J} {τ : am_T} {Q : am_Q} {x0 x1 x2 x3 x4 x5 : Value} {a : Nat} (ht : τ.1 a = 12) : AW d 231 90 [x0, x1, x2, x3, x4, x5] (.ref a :: st) σ ρ g τ Q = AW d 231 93 [x0, x1, x2, x3, x4, x5] (va_rf (ρ a 33) :: st) σ ρ g τ Q := aw_gr m231 d231_90 rfl rfl rfl ht
theorem d231_93 : decode cX12_paper 93 = .ok (.iload 5, 2) := by decide +kernel
theorem s231_93 {d : Nat} {st : List Value} {σ : am_I} {ρ : am_R} {g : am_J} {τ : am_T} {Q : am_Q} {x0 x1 x2 x3 x4 : Value} {v : Int32} : AW d 231 93 [x0, x1, x2, x3, x4, .int v] (st) σ ρ g τ Q = AW d 231 95 [x0, x1, x2, x3, x4, .int v] (.int v :: st) σ ρ g τ Q := aw_lc m231 d231_93 rfl rfl rfl
theorem d231_95 : decode cX12_paper 95 = .ok (.iload_n 3, 1) := by decide +kernel
theorem s231_95 {d : Nat} {st : List Value} {σ : am_I} {ρ : am_R} {g : am_J} {τ : am_T} {Q : am_Q} {x0 x1 x2 x4 x5 : Value} {v : Int32} : AW d 231 95 [x0, x1, x2, .int v, x4, x5] (st) σ ρ g τ Q = AW d 231 96 [x0, x1, x2, .int v, x4, x5] (.int v :: st) σ ρ g τ Q := aw_lc m231 d231_95 rfl rfl rfl
theorem d231_96 : decode cX12_paper 96 = .ok (.bipush 10, 2) := by decide +kernel
theorem s231_96 {d : Nat} {st : List Value} {σ : am_I} {ρ : am_R} {g : am_J} {τ : am_T} {Q : am_Q} {x0 x1 x2 x3 x4 x5 : Value} : AW d 231 96 [x0, x1, x2, x3, x4, x5] (st) σ ρ g τ Q = AW d 231 98 [x0, x1, x2, x3, x4, x5] (.int 10 :: st) σ ρ g τ Q := aw_lc m231 d231_96 rfl rfl rfl
theorem d231_98 : decode cX12_paper 98 = .ok (.irem, 1) := by decide +kernel
theorem s231_98 {d : Nat} {st : List Value} {σ : am_I} {ρ : am_R} {g : am_J} {τ : am_T} {Q : am_Q} {x0 x1 x2 x3 x4 x5 : Value} {v w : Int32} (h0 : ¬ w = 0) : AW d 231 98 [x0, x1, x2, x3, x4, x5] (.int w :: .int v :: st) σ ρ g τ Q = AW d 231 99 [x0, x1, x2, x3, x4, x5] (.int (v - v / w * w) :: st) σ ρ g τ Q := aw_rem m231 d231_98 h0 rfl
theorem d231_99 : decode cX12_paper 99 = .ok (.iastore, 1) := by decide +kernel
theorem s231_99 {d : Nat} {st : List Value} {σ : am_I} {ρ : am_R} {g : am_J} {τ : am_T} {Q : am_Q} {x0 x1 x2 x3 x4 x5 : Value} {a : Nat} {j v : Int32} (ht : τ.1 a = 15) (ha : a < am_BG) (hj : am_inb j (τ.2.1 a) = true) : AW d 231 99 [x0, x1, x2, x3, x4, x5] (.int v :: .int j :: .ref a :: st) σ ρ g τ Q = AW d 231 100 [x0, x1, x2, x3, x4, x5] (st) (am_u σ a j.toNatClampNeg v) ρ g τ Q := aw_ias m231 d231_99 rfl ht ha hj
theorem d231_100 : decode cX12_paper 100 = .ok (.aload_n 0, 1) := by decide +kernel
theorem s231_100 {d : Nat} {st : List Value} {σ : am_I} {ρ : am_R} {g : am_J} {τ : am_T} {Q : am_Q} {x1 x2 x3 x4 x5 : Value} {v : Nat} : AW d 231 100 [.ref v, x1, x2, x3, x4, x5] (st) σ ρ g τ Q = AW d 231 101 [.ref v, x1, x2, x3, x4, x5] (.ref v :: st) σ ρ g τ Q := aw_lc m231 d231_100 rfl rfl rfl
theorem d231_101 : decode cX12_paper 101 = .ok (.getfield 112, 3) := by decide +kernel
theorem s231_101 {d : Nat} {st : List Value} {σ : am_I} {ρ : am_R} {g : am_J} {τ : am_T} {Q : am_Q} {x0 x1 x2 x3 x4 x5 : Value} {a : Nat} (ht : τ.1 a = 12) : AW d 231 101 [x0, x1, x2, x3, x4, x5] (.ref a :: st) σ ρ g τ Q = AW d 231 104 [x0, x1, x2, x3, x4, x5] (va_rf (ρ a 34) :: st) σ ρ g τ Q := aw_gr m231 d231_101 rfl rfl rfl ht
theorem d231_104 : decode cX12_paper 104 = .ok (.iload 5, 2) := by decide +kernel
theorem s231_104 {d : Nat} {st : List Value} {σ : am_I} {ρ : am_R} {g : am_J} {τ : am_T} {Q : am_Q} {x0 x1 x2 x3 x4 : Value} {v : Int32} : AW d 231 104 [x0, x1, x2, x3, x4, .int v] (st) σ ρ g τ Q = AW d 231 106 [x0, x1, x2, x3, x4, .int v] (.int v :: st) σ ρ g τ Q := aw_lc m231 d231_104 rfl rfl rfl
theorem d231_106 : decode cX12_paper 106 = .ok (.iload 4, 2) := by decide +kernel
theorem s231_106 {d : Nat} {st : List Value} {σ : am_I} {ρ : am_R} {g : am_J} {τ : am_T} {Q : am_Q} {x0 x1 x2 x3 x5 : Value} {v : Int32} : AW d 231 106 [x0, x1, x2, x3, .int v, x5] (st) σ ρ g τ Q = AW d 231 108 [x0, x1, x2, x3, .int v, x5] (.int v :: st) σ ρ g τ Q := aw_lc m231 d231_106 rfl rfl rfl
theorem d231_108 : decode cX12_paper 108 = .ok (.iastore, 1) := by decide +kernel
theorem s231_108 {d : Nat} {st : List Value} {σ : am_I} {ρ : am_R} {g : am_J} {τ : am_T} {Q : am_Q} {x0 x1 x2 x3 x4 x5 : Value} {a : Nat} {j v : Int32} (ht : τ.1 a = 15) (ha : a < am_BG) (hj : am_inb j (τ.2.1 a) = true) : AW d 231 108 [x0, x1, x2, x3, x4, x5] (.int v :: .int j :: .ref a :: st) σ ρ g τ Q = AW d 231 109 [x0, x1, x2, x3, x4, x5] (st) (am_u σ a j.toNatClampNeg v) ρ g τ Q := aw_ias m231 d231_108 rfl ht ha hj
theorem d231_109 : decode cX12_paper 109 = .ok (.aload_n 0, 1) := by decide +kernel
theorem s231_109 {d : Nat} {st : List Value} {σ : am_I} {ρ : am_R} {g : am_J} {τ : am_T} {Q : am_Q} {x1 x2 x3 x4 x5 : Value} {v : Nat} : AW d 231 109 [.ref v, x1, x2, x3, x4, x5] (st) σ ρ g τ Q = AW d 231 110 [.ref v, x1, x2, x3, x4, x5] (.ref v :: st) σ ρ g τ Q := aw_lc m231 d231_109 rfl rfl rfl
theorem d231_110 : decode cX12_paper 110 = .ok (.getfield 9, 3) := by decide +kernel
theorem s231_110 {d : Nat} {st : List Value} {σ : am_I} {ρ : am_R} {g : am_J} {τ : am_T} {Q : am_Q} {x0 x1 x2 x3 x4 x5 : Value} {a : Nat} (ht : τ.1 a = 12) : AW d 231 110 [x0, x1, x2, x3, x4, x5] (.ref a :: st) σ ρ g τ Q = AW d 231 113 [x0, x1, x2, x3, x4, x5] (va_rf (ρ a 0) :: st) σ ρ g τ Q := aw_gr m231 d231_110 rfl rfl rfl ht
theorem d231_113 : decode cX12_paper 113 = .ok (.iconst 5, 1) := by decide +kernel
theorem s231_113 {d : Nat} {st : List Value} {σ : am_I} {ρ : am_R} {g : am_J} {τ : am_T} {Q : am_Q} {x0 x1 x2 x3 x4 x5 : Value} : AW d 231 113 [x0, x1, x2, x3, x4, x5] (st) σ ρ g τ Q = AW d 231 114 [x0, x1, x2, x3, x4, x5] (.int 5 :: st) σ ρ g τ Q := aw_lc m231 d231_113 rfl rfl rfl
theorem d231_114 : decode cX12_paper 114 = .ok (.dup2, 1) := by decide +kernel
theorem s231_114 {d : Nat} {st : List Value} {σ : am_I} {ρ : am_R} {g : am_J} {τ : am_T} {Q : am_Q} {x0 x1 x2 x3 x4 x5 : Value} {v : Int32} {w : Nat} : AW d 231 114 [x0, x1, x2, x3, x4, x5] (.int v :: .ref w :: st) σ ρ g τ Q = AW d 231 115 [x0, x1, x2, x3, x4, x5] (.int v :: .ref w :: .int v :: .ref w :: st) σ ρ g τ Q := aw_lc m231 d231_114 rfl rfl rfl
theorem d231_115 : decode cX12_paper 115 = .ok (.iaload, 1) := by decide +kernel
theorem s231_115 {d : Nat} {st : List Value} {σ : am_I} {ρ : am_R} {g : am_J} {τ : am_T} {Q : am_Q} {x0 x1 x2 x3 x4 x5 : Value} {a : Nat} {j : Int32} (ht : τ.1 a = 15) (hj : am_inb j (τ.2.1 a) = true) : AW d 231 115 [x0, x1, x2, x3, x4, x5] (.int j :: .ref a :: st) σ ρ g τ Q = AW d 231 116 [x0, x1, x2, x3, x4, x5] (.int (σ a j.toNatClampNeg) :: st) σ ρ g τ Q := aw_ial m231 d231_115 rfl ht hj
theorem d231_116 : decode cX12_paper 116 = .ok (.iconst 1, 1) := by decide +kernel
theorem s231_116 {d : Nat} {st : List Value} {σ : am_I} {ρ : am_R} {g : am_J} {τ : am_T} {Q : am_Q} {x0 x1 x2 x3 x4 x5 : Value} : AW d 231 116 [x0, x1, x2, x3, x4, x5] (st) σ ρ g τ Q = AW d 231 117 [x0, x1, x2, x3, x4, x5] (.int 1 :: st) σ ρ g τ Q := aw_lc m231 d231_116 rfl rfl rfl
theorem d231_117 : decode cX12_paper 117 = .ok (.iadd, 1) := by decide +kernel
theorem s231_117 {d : Nat} {st : List Value} {σ : am_I} {ρ : am_R} {g : am_J} {τ : am_T} {Q : am_Q} {x0 x1 x2 x3 x4 x5 : Value} {v w : Int32} : AW d 231 117 [x0, x1, x2, x3, x4, x5] (.int w :: .int v :: st) σ ρ g τ Q = AW d 231 118 [x0, x1, x2, x3, x4, x5] (.int (v + w) :: st) σ ρ g τ Q := aw_lc m231 d231_117 rfl rfl rfl
theorem d231_118 : decode cX12_paper 118 = .ok (.iastore, 1) := by decide +kernel
theorem s231_118 {d : Nat} {st : List Value} {σ : am_I} {ρ : am_R} {g : am_J} {τ : am_T} {Q : am_Q} {x0 x1 x2 x3 x4 x5 : Value} {a : Nat} {j v : Int32} (ht : τ.1 a = 15) (ha : a < am_BG) (hj : am_inb j (τ.2.1 a) = true) : AW d 231 118 [x0, x1, x2, x3, x4, x5] (.int v :: .int j :: .ref a :: st) σ ρ g τ Q = AW d 231 119 [x0, x1, x2, x3, x4, x5] (st) (am_u σ a j.toNatClampNeg v) ρ g τ Q := aw_ias m231 d231_118 rfl ht ha hj
theorem d231_119 : decode cX12_paper 119 = .ok (.iload 5, 2) := by decide +kernel
theorem s231_119 {d : Nat} {st : List Value} {σ : am_I} {ρ : am_R} {g : am_J} {τ : am_T} {Q : am_Q} {x0 x1 x2 x3 x4 : Value} {v : Int32} : AW d 231 119 [x0, x1, x2, x3, x4, .int v] (st) σ ρ g τ Q = AW d 231 121 [x0, x1, x2, x3, x4, .int v] (.int v :: st) σ ρ g τ Q := aw_lc m231 d231_119 rfl rfl rfl
theorem d231_121 : decode cX12_paper 121 = .ok (.ireturn, 1) := by decide +kernel
theorem s231_121 {d : Nat} {σ : am_I} {ρ : am_R} {g : am_J} {τ : am_T} {Q : am_Q} {x0 x1 x2 x3 x4 x5 : Value} {v : Int32} : AW d 231 121 [x0, x1, x2, x3, x4, x5] ([.int v]) σ ρ g τ Q = Q (some (.int v)) σ ρ g τ := aw_ri m231 d231_121 rfl
theorem d232_0 : decode cX12_mayBeOne 0 = .ok (.aload_n 0, 1) := by decide +kernel
theorem s232_0 {d : Nat} {st : List Value} {σ : am_I} {ρ : am_R} {g : am_J} {τ : am_T} {Q : am_Q} {x1 x2 x3 : Value} {v : Nat} : AW d 232 0 [.ref v, x1, x2, x3] (st) σ ρ g τ Q = AW d 232 1 [.ref v, x1, x2, x3] (.ref v :: st) σ ρ g τ Q := aw_lc m232 d232_0 rfl rfl rfl
theorem d232_1 : decode cX12_mayBeOne 1 = .ok (.getfield 100, 3) := by decide +kernel
theorem s232_1 {d : Nat} {st : List Value} {σ : am_I} {ρ : am_R} {g : am_J} {τ : am_T} {Q : am_Q} {x0 x1 x2 x3 : Value} {a : Nat} (ht : τ.1 a = 12) : AW d 232 1 [x0, x1, x2, x3] (.ref a :: st) σ ρ g τ Q = AW d 232 4 [x0, x1, x2, x3] (va_rf (ρ a 30) :: st) σ ρ g τ Q := aw_gr m232 d232_1 rfl rfl rfl ht
theorem d232_4 : decode cX12_mayBeOne 4 = .ok (.iload_n 1, 1) := by decide +kernel
theorem s232_4 {d : Nat} {st : List Value} {σ : am_I} {ρ : am_R} {g : am_J} {τ : am_T} {Q : am_Q} {x0 x2 x3 : Value} {v : Int32} : AW d 232 4 [x0, .int v, x2, x3] (st) σ ρ g τ Q = AW d 232 5 [x0, .int v, x2, x3] (.int v :: st) σ ρ g τ Q := aw_lc m232 d232_4 rfl rfl rfl
theorem d232_5 : decode cX12_mayBeOne 5 = .ok (.iaload, 1) := by decide +kernel
theorem s232_5 {d : Nat} {st : List Value} {σ : am_I} {ρ : am_R} {g : am_J} {τ : am_T} {Q : am_Q} {x0 x1 x2 x3 : Value} {a : Nat} {j : Int32} (ht : τ.1 a = 15) (hj : am_inb j (τ.2.1 a) = true) : AW d 232 5 [x0, x1, x2, x3] (.int j :: .ref a :: st) σ ρ g τ Q = AW d 232 6 [x0, x1, x2, x3] (.int (σ a j.toNatClampNeg) :: st) σ ρ g τ Q := aw_ial m232 d232_5 rfl ht hj
theorem d232_6 : decode cX12_mayBeOne 6 = .ok (.aload_n 0, 1) := by decide +kernel
theorem s232_6 {d : Nat} {st : List Value} {σ : am_I} {ρ : am_R} {g : am_J} {τ : am_T} {Q : am_Q} {x1 x2 x3 : Value} {v : Nat} : AW d 232 6 [.ref v, x1, x2, x3] (st) σ ρ g τ Q = AW d 232 7 [.ref v, x1, x2, x3] (.ref v :: st) σ ρ g τ Q := aw_lc m232 d232_6 rfl rfl rfl
theorem d232_7 : decode cX12_mayBeOne 7 = .ok (.getfield 100, 3) := by decide +kernel
theorem s232_7 {d : Nat} {st : List Value} {σ : am_I} {ρ : am_R} {g : am_J} {τ : am_T} {Q : am_Q} {x0 x1 x2 x3 : Value} {a : Nat} (ht : τ.1 a = 12) : AW d 232 7 [x0, x1, x2, x3] (.ref a :: st) σ ρ g τ Q = AW d 232 10 [x0, x1, x2, x3] (va_rf (ρ a 30) :: st) σ ρ g τ Q := aw_gr m232 d232_7 rfl rfl rfl ht
theorem d232_10 : decode cX12_mayBeOne 10 = .ok (.iload_n 2, 1) := by decide +kernel
theorem s232_10 {d : Nat} {st : List Value} {σ : am_I} {ρ : am_R} {g : am_J} {τ : am_T} {Q : am_Q} {x0 x1 x3 : Value} {v : Int32} : AW d 232 10 [x0, x1, .int v, x3] (st) σ ρ g τ Q = AW d 232 11 [x0, x1, .int v, x3] (.int v :: st) σ ρ g τ Q := aw_lc m232 d232_10 rfl rfl rfl
theorem d232_11 : decode cX12_mayBeOne 11 = .ok (.iaload, 1) := by decide +kernel
theorem s232_11 {d : Nat} {st : List Value} {σ : am_I} {ρ : am_R} {g : am_J} {τ : am_T} {Q : am_Q} {x0 x1 x2 x3 : Value} {a : Nat} {j : Int32} (ht : τ.1 a = 15) (hj : am_inb j (τ.2.1 a) = true) : AW d 232 11 [x0, x1, x2, x3] (.int j :: .ref a :: st) σ ρ g τ Q = AW d 232 12 [x0, x1, x2, x3] (.int (σ a j.toNatClampNeg) :: st) σ ρ g τ Q := aw_ial m232 d232_11 rfl ht hj
theorem d232_12 : decode cX12_mayBeOne 12 = .ok (.if_icmp .eq 33, 3) := by decide +kernel
theorem s232_12 {d : Nat} {st : List Value} {σ : am_I} {ρ : am_R} {g : am_J} {τ : am_T} {Q : am_Q} {x0 x1 x2 x3 : Value} {v w : Int32} : AW d 232 12 [x0, x1, x2, x3] (.int w :: .int v :: st) σ ρ g τ Q = if v = w then AW d 232 45 [x0, x1, x2, x3] (st) σ ρ g τ Q else AW d 232 15 [x0, x1, x2, x3] (st) σ ρ g τ Q := aw_br m232 d232_12 rfl rfl rfl
theorem d232_15 : decode cX12_mayBeOne 15 = .ok (.aload_n 0, 1) := by decide +kernel
theorem s232_15 {d : Nat} {st : List Value} {σ : am_I} {ρ : am_R} {g : am_J} {τ : am_T} {Q : am_Q} {x1 x2 x3 : Value} {v : Nat} : AW d 232 15 [.ref v, x1, x2, x3] (st) σ ρ g τ Q = AW d 232 16 [.ref v, x1, x2, x3] (.ref v :: st) σ ρ g τ Q := aw_lc m232 d232_15 rfl rfl rfl
theorem d232_16 : decode cX12_mayBeOne 16 = .ok (.getfield 103, 3) := by decide +kernel
theorem s232_16 {d : Nat} {st : List Value} {σ : am_I} {ρ : am_R} {g : am_J} {τ : am_T} {Q : am_Q} {x0 x1 x2 x3 : Value} {a : Nat} (ht : τ.1 a = 12) : AW d 232 16 [x0, x1, x2, x3] (.ref a :: st) σ ρ g τ Q = AW d 232 19 [x0, x1, x2, x3] (va_rf (ρ a 31) :: st) σ ρ g τ Q := aw_gr m232 d232_16 rfl rfl rfl ht
theorem d232_19 : decode cX12_mayBeOne 19 = .ok (.iload_n 1, 1) := by decide +kernel
theorem s232_19 {d : Nat} {st : List Value} {σ : am_I} {ρ : am_R} {g : am_J} {τ : am_T} {Q : am_Q} {x0 x2 x3 : Value} {v : Int32} : AW d 232 19 [x0, .int v, x2, x3] (st) σ ρ g τ Q = AW d 232 20 [x0, .int v, x2, x3] (.int v :: st) σ ρ g τ Q := aw_lc m232 d232_19 rfl rfl rfl
theorem d232_20 : decode cX12_mayBeOne 20 = .ok (.iaload, 1) := by decide +kernel
theorem s232_20 {d : Nat} {st : List Value} {σ : am_I} {ρ : am_R} {g : am_J} {τ : am_T} {Q : am_Q} {x0 x1 x2 x3 : Value} {a : Nat} {j : Int32} (ht : τ.1 a = 15) (hj : am_inb j (τ.2.1 a) = true) : AW d 232 20 [x0, x1, x2, x3] (.int j :: .ref a :: st) σ ρ g τ Q = AW d 232 21 [x0, x1, x2, x3] (.int (σ a j.toNatClampNeg) :: st) σ ρ g τ Q := aw_ial m232 d232_20 rfl ht hj
theorem d232_21 : decode cX12_mayBeOne 21 = .ok (.aload_n 0, 1) := by decide +kernel
theorem s232_21 {d : Nat} {st : List Value} {σ : am_I} {ρ : am_R} {g : am_J} {τ : am_T} {Q : am_Q} {x1 x2 x3 : Value} {v : Nat} : AW d 232 21 [.ref v, x1, x2, x3] (st) σ ρ g τ Q = AW d 232 22 [.ref v, x1, x2, x3] (.ref v :: st) σ ρ g τ Q := aw_lc m232 d232_21 rfl rfl rfl
theorem d232_22 : decode cX12_mayBeOne 22 = .ok (.getfield 103, 3) := by decide +kernel
theorem s232_22 {d : Nat} {st : List Value} {σ : am_I} {ρ : am_R} {g : am_J} {τ : am_T} {Q : am_Q} {x0 x1 x2 x3 : Value} {a : Nat} (ht : τ.1 a = 12) : AW d 232 22 [x0, x1, x2, x3] (.ref a :: st) σ ρ g τ Q = AW d 232 25 [x0, x1, x2, x3] (va_rf (ρ a 31) :: st) σ ρ g τ Q := aw_gr m232 d232_22 rfl rfl rfl ht
theorem d232_25 : decode cX12_mayBeOne 25 = .ok (.iload_n 2, 1) := by decide +kernel
theorem s232_25 {d : Nat} {st : List Value} {σ : am_I} {ρ : am_R} {g : am_J} {τ : am_T} {Q : am_Q} {x0 x1 x3 : Value} {v : Int32} : AW d 232 25 [x0, x1, .int v, x3] (st) σ ρ g τ Q = AW d 232 26 [x0, x1, .int v, x3] (.int v :: st) σ ρ g τ Q := aw_lc m232 d232_25 rfl rfl rfl
theorem d232_26 : decode cX12_mayBeOne 26 = .ok (.iaload, 1) := by decide +kernel
theorem s232_26 {d : Nat} {st : List Value} {σ : am_I} {ρ : am_R} {g : am_J} {τ : am_T} {Q : am_Q} {x0 x1 x2 x3 : Value} {a : Nat} {j : Int32} (ht : τ.1 a = 15) (hj : am_inb j (τ.2.1 a) = true) : AW d 232 26 [x0, x1, x2, x3] (.int j :: .ref a :: st) σ ρ g τ Q = AW d 232 27 [x0, x1, x2, x3] (.int (σ a j.toNatClampNeg) :: st) σ ρ g τ Q := aw_ial m232 d232_26 rfl ht hj
theorem d232_27 : decode cX12_mayBeOne 27 = .ok (.if_icmp .ne 18, 3) := by decide +kernel
theorem s232_27 {d : Nat} {st : List Value} {σ : am_I} {ρ : am_R} {g : am_J} {τ : am_T} {Q : am_Q} {x0 x1 x2 x3 : Value} {v w : Int32} : AW d 232 27 [x0, x1, x2, x3] (.int w :: .int v :: st) σ ρ g τ Q = if ¬ v = w then AW d 232 45 [x0, x1, x2, x3] (st) σ ρ g τ Q else AW d 232 30 [x0, x1, x2, x3] (st) σ ρ g τ Q := aw_br m232 d232_27 rfl rfl rfl
theorem d232_30 : decode cX12_mayBeOne 30 = .ok (.aload_n 0, 1) := by decide +kernel
theorem s232_30 {d : Nat} {st : List Value} {σ : am_I} {ρ : am_R} {g : am_J} {τ : am_T} {Q : am_Q} {x1 x2 x3 : Value} {v : Nat} : AW d 232 30 [.ref v, x1, x2, x3] (st) σ ρ g τ Q = AW d 232 31 [.ref v, x1, x2, x3] (.ref v :: st) σ ρ g τ Q := aw_lc m232 d232_30 rfl rfl rfl
theorem d232_31 : decode cX12_mayBeOne 31 = .ok (.getfield 106, 3) := by decide +kernel
theorem s232_31 {d : Nat} {st : List Value} {σ : am_I} {ρ : am_R} {g : am_J} {τ : am_T} {Q : am_Q} {x0 x1 x2 x3 : Value} {a : Nat} (ht : τ.1 a = 12) : AW d 232 31 [x0, x1, x2, x3] (.ref a :: st) σ ρ g τ Q = AW d 232 34 [x0, x1, x2, x3] (va_rf (ρ a 32) :: st) σ ρ g τ Q := aw_gr m232 d232_31 rfl rfl rfl ht
theorem d232_34 : decode cX12_mayBeOne 34 = .ok (.iload_n 1, 1) := by decide +kernel
theorem s232_34 {d : Nat} {st : List Value} {σ : am_I} {ρ : am_R} {g : am_J} {τ : am_T} {Q : am_Q} {x0 x2 x3 : Value} {v : Int32} : AW d 232 34 [x0, .int v, x2, x3] (st) σ ρ g τ Q = AW d 232 35 [x0, .int v, x2, x3] (.int v :: st) σ ρ g τ Q := aw_lc m232 d232_34 rfl rfl rfl
theorem d232_35 : decode cX12_mayBeOne 35 = .ok (.iaload, 1) := by decide +kernel
theorem s232_35 {d : Nat} {st : List Value} {σ : am_I} {ρ : am_R} {g : am_J} {τ : am_T} {Q : am_Q} {x0 x1 x2 x3 : Value} {a : Nat} {j : Int32} (ht : τ.1 a = 15) (hj : am_inb j (τ.2.1 a) = true) : AW d 232 35 [x0, x1, x2, x3] (.int j :: .ref a :: st) σ ρ g τ Q = AW d 232 36 [x0, x1, x2, x3] (.int (σ a j.toNatClampNeg) :: st) σ ρ g τ Q := aw_ial m232 d232_35 rfl ht hj
theorem d232_36 : decode cX12_mayBeOne 36 = .ok (.aload_n 0, 1) := by decide +kernel
theorem s232_36 {d : Nat} {st : List Value} {σ : am_I} {ρ : am_R} {g : am_J} {τ : am_T} {Q : am_Q} {x1 x2 x3 : Value} {v : Nat} : AW d 232 36 [.ref v, x1, x2, x3] (st) σ ρ g τ Q = AW d 232 37 [.ref v, x1, x2, x3] (.ref v :: st) σ ρ g τ Q := aw_lc m232 d232_36 rfl rfl rfl
theorem d232_37 : decode cX12_mayBeOne 37 = .ok (.getfield 106, 3) := by decide +kernel
theorem s232_37 {d : Nat} {st : List Value} {σ : am_I} {ρ : am_R} {g : am_J} {τ : am_T} {Q : am_Q} {x0 x1 x2 x3 : Value} {a : Nat} (ht : τ.1 a = 12) : AW d 232 37 [x0, x1, x2, x3] (.ref a :: st) σ ρ g τ Q = AW d 232 40 [x0, x1, x2, x3] (va_rf (ρ a 32) :: st) σ ρ g τ Q := aw_gr m232 d232_37 rfl rfl rfl ht
theorem d232_40 : decode cX12_mayBeOne 40 = .ok (.iload_n 2, 1) := by decide +kernel
theorem s232_40 {d : Nat} {st : List Value} {σ : am_I} {ρ : am_R} {g : am_J} {τ : am_T} {Q : am_Q} {x0 x1 x3 : Value} {v : Int32} : AW d 232 40 [x0, x1, .int v, x3] (st) σ ρ g τ Q = AW d 232 41 [x0, x1, .int v, x3] (.int v :: st) σ ρ g τ Q := aw_lc m232 d232_40 rfl rfl rfl
theorem d232_41 : decode cX12_mayBeOne 41 = .ok (.iaload, 1) := by decide +kernel
theorem s232_41 {d : Nat} {st : List Value} {σ : am_I} {ρ : am_R} {g : am_J} {τ : am_T} {Q : am_Q} {x0 x1 x2 x3 : Value} {a : Nat} {j : Int32} (ht : τ.1 a = 15) (hj : am_inb j (τ.2.1 a) = true) : AW d 232 41 [x0, x1, x2, x3] (.int j :: .ref a :: st) σ ρ g τ Q = AW d 232 42 [x0, x1, x2, x3] (.int (σ a j.toNatClampNeg) :: st) σ ρ g τ Q := aw_ial m232 d232_41 rfl ht hj
theorem d232_42 : decode cX12_mayBeOne 42 = .ok (.if_icmp .eq 5, 3) := by decide +kernel
theorem s232_42 {d : Nat} {st : List Value} {σ : am_I} {ρ : am_R} {g : am_J} {τ : am_T} {Q : am_Q} {x0 x1 x2 x3 : Value} {v w : Int32} : AW d 232 42 [x0, x1, x2, x3] (.int w :: .int v :: st) σ ρ g τ Q = if v = w then AW d 232 47 [x0, x1, x2, x3] (st) σ ρ g τ Q else AW d 232 45 [x0, x1, x2, x3] (st) σ ρ g τ Q := aw_br m232 d232_42 rfl rfl rfl
theorem d232_45 : decode cX12_mayBeOne 45 = .ok (.iconst 0, 1) := by decide +kernel
theorem s232_45 {d : Nat} {st : List Value} {σ : am_I} {ρ : am_R} {g : am_J} {τ : am_T} {Q : am_Q} {x0 x1 x2 x3 : Value} : AW d 232 45 [x0, x1, x2, x3] (st) σ ρ g τ Q = AW d 232 46 [x0, x1, x2, x3] (.int 0 :: st) σ ρ g τ Q := aw_lc m232 d232_45 rfl rfl rfl
theorem d232_46 : decode cX12_mayBeOne 46 = .ok (.ireturn, 1) := by decide +kernel
theorem s232_46 {d : Nat} {σ : am_I} {ρ : am_R} {g : am_J} {τ : am_T} {Q : am_Q} {x0 x1 x2 x3 : Value} {v : Int32} (hv : am_b01 v = true) : AW d 232 46 [x0, x1, x2, x3] ([.int v]) σ ρ g τ Q = Q (some (.int v)) σ ρ g τ := aw_rz m232 d232_46 rfl hv
theorem d232_47 : decode cX12_mayBeOne 47 = .ok (.aload_n 0, 1) := by decide +kernel
theorem s232_47 {d : Nat} {st : List Value} {σ : am_I} {ρ : am_R} {g : am_J} {τ : am_T} {Q : am_Q} {x1 x2 x3 : Value} {v : Nat} : AW d 232 47 [.ref v, x1, x2, x3] (st) σ ρ g τ Q = AW d 232 48 [.ref v, x1, x2, x3] (.ref v :: st) σ ρ g τ Q := aw_lc m232 d232_47 rfl rfl rfl
theorem d232_48 : decode cX12_mayBeOne 48 = .ok (.getfield 112, 3) := by decide +kernel
theorem s232_48 {d : Nat} {st : List Value} {σ : am_I} {ρ : am_R} {g : am_J} {τ : am_T} {Q : am_Q} {x0 x1 x2 x3 : Value} {a : Nat} (ht : τ.1 a = 12) : AW d 232 48 [x0, x1, x2, x3] (.ref a :: st) σ ρ g τ Q = AW d 232 51 [x0, x1, x2, x3] (va_rf (ρ a 34) :: st) σ ρ g τ Q := aw_gr m232 d232_48 rfl rfl rfl ht
theorem d232_51 : decode cX12_mayBeOne 51 = .ok (.iload_n 1, 1) := by decide +kernel
theorem s232_51 {d : Nat} {st : List Value} {σ : am_I} {ρ : am_R} {g : am_J} {τ : am_T} {Q : am_Q} {x0 x2 x3 : Value} {v : Int32} : AW d 232 51 [x0, .int v, x2, x3] (st) σ ρ g τ Q = AW d 232 52 [x0, .int v, x2, x3] (.int v :: st) σ ρ g τ Q := aw_lc m232 d232_51 rfl rfl rfl
theorem d232_52 : decode cX12_mayBeOne 52 = .ok (.iaload, 1) := by decide +kernel
theorem s232_52 {d : Nat} {st : List Value} {σ : am_I} {ρ : am_R} {g : am_J} {τ : am_T} {Q : am_Q} {x0 x1 x2 x3 : Value} {a : Nat} {j : Int32} (ht : τ.1 a = 15) (hj : am_inb j (τ.2.1 a) = true) : AW d 232 52 [x0, x1, x2, x3] (.int j :: .ref a :: st) σ ρ g τ Q = AW d 232 53 [x0, x1, x2, x3] (.int (σ a j.toNatClampNeg) :: st) σ ρ g τ Q := aw_ial m232 d232_52 rfl ht hj
theorem d232_53 : decode cX12_mayBeOne 53 = .ok (.aload_n 0, 1) := by decide +kernel
theorem s232_53 {d : Nat} {st : List Value} {σ : am_I} {ρ : am_R} {g : am_J} {τ : am_T} {Q : am_Q} {x1 x2 x3 : Value} {v : Nat} : AW d 232 53 [.ref v, x1, x2, x3] (st) σ ρ g τ Q = AW d 232 54 [.ref v, x1, x2, x3] (.ref v :: st) σ ρ g τ Q := aw_lc m232 d232_53 rfl rfl rfl
theorem d232_54 : decode cX12_mayBeOne 54 = .ok (.getfield 112, 3) := by decide +kernel
theorem s232_54 {d : Nat} {st : List Value} {σ : am_I} {ρ : am_R} {g : am_J} {τ : am_T} {Q : am_Q} {x0 x1 x2 x3 : Value} {a : Nat} (ht : τ.1 a = 12) : AW d 232 54 [x0, x1, x2, x3] (.ref a :: st) σ ρ g τ Q = AW d 232 57 [x0, x1, x2, x3] (va_rf (ρ a 34) :: st) σ ρ g τ Q := aw_gr m232 d232_54 rfl rfl rfl ht
theorem d232_57 : decode cX12_mayBeOne 57 = .ok (.iload_n 2, 1) := by decide +kernel
theorem s232_57 {d : Nat} {st : List Value} {σ : am_I} {ρ : am_R} {g : am_J} {τ : am_T} {Q : am_Q} {x0 x1 x3 : Value} {v : Int32} : AW d 232 57 [x0, x1, .int v, x3] (st) σ ρ g τ Q = AW d 232 58 [x0, x1, .int v, x3] (.int v :: st) σ ρ g τ Q := aw_lc m232 d232_57 rfl rfl rfl
theorem d232_58 : decode cX12_mayBeOne 58 = .ok (.iaload, 1) := by decide +kernel
theorem s232_58 {d : Nat} {st : List Value} {σ : am_I} {ρ : am_R} {g : am_J} {τ : am_T} {Q : am_Q} {x0 x1 x2 x3 : Value} {a : Nat} {j : Int32} (ht : τ.1 a = 15) (hj : am_inb j (τ.2.1 a) = true) : AW d 232 58 [x0, x1, x2, x3] (.int j :: .ref a :: st) σ ρ g τ Q = AW d 232 59 [x0, x1, x2, x3] (.int (σ a j.toNatClampNeg) :: st) σ ρ g τ Q := aw_ial m232 d232_58 rfl ht hj
theorem d232_59 : decode cX12_mayBeOne 59 = .ok (.isub, 1) := by decide +kernel
theorem s232_59 {d : Nat} {st : List Value} {σ : am_I} {ρ : am_R} {g : am_J} {τ : am_T} {Q : am_Q} {x0 x1 x2 x3 : Value} {v w : Int32} : AW d 232 59 [x0, x1, x2, x3] (.int w :: .int v :: st) σ ρ g τ Q = AW d 232 60 [x0, x1, x2, x3] (.int (v - w) :: st) σ ρ g τ Q := aw_lc m232 d232_59 rfl rfl rfl
theorem d232_60 : decode cX12_mayBeOne 60 = .ok (.istore_n 3, 1) := by decide +kernel
theorem s232_60 {d : Nat} {st : List Value} {σ : am_I} {ρ : am_R} {g : am_J} {τ : am_T} {Q : am_Q} {x0 x1 x3 : Value} {v : Int32} {u : Int32} : AW d 232 60 [x0, x1, .int u, x3] (.int v :: st) σ ρ g τ Q = AW d 232 61 [x0, x1, .int u, .int v] (st) σ ρ g τ Q := aw_lc m232 d232_60 rfl rfl rfl
theorem d232_61 : decode cX12_mayBeOne 61 = .ok (.iload_n 3, 1) := by decide +kernel
theorem s232_61 {d : Nat} {st : List Value} {σ : am_I} {ρ : am_R} {g : am_J} {τ : am_T} {Q : am_Q} {x0 x1 x2 : Value} {v : Int32} : AW d 232 61 [x0, x1, x2, .int v] (st) σ ρ g τ Q = AW d 232 62 [x0, x1, x2, .int v] (.int v :: st) σ ρ g τ Q := aw_lc m232 d232_61 rfl rfl rfl
theorem d232_62 : decode cX12_mayBeOne 62 = .ok (.iconst (-1), 1) := by decide +kernel
theorem s232_62 {d : Nat} {st : List Value} {σ : am_I} {ρ : am_R} {g : am_J} {τ : am_T} {Q : am_Q} {x0 x1 x2 x3 : Value} : AW d 232 62 [x0, x1, x2, x3] (st) σ ρ g τ Q = AW d 232 63 [x0, x1, x2, x3] (.int (-1) :: st) σ ρ g τ Q := aw_lc m232 d232_62 rfl rfl rfl
theorem d232_63 : decode cX12_mayBeOne 63 = .ok (.if_icmp .lt 45, 3) := by decide +kernel
theorem s232_63 {d : Nat} {st : List Value} {σ : am_I} {ρ : am_R} {g : am_J} {τ : am_T} {Q : am_Q} {x0 x1 x2 x3 : Value} {v w : Int32} : AW d 232 63 [x0, x1, x2, x3] (.int w :: .int v :: st) σ ρ g τ Q = if v < w then AW d 232 108 [x0, x1, x2, x3] (st) σ ρ g τ Q else AW d 232 66 [x0, x1, x2, x3] (st) σ ρ g τ Q := aw_br m232 d232_63 rfl rfl rfl
theorem d232_66 : decode cX12_mayBeOne 66 = .ok (.iload_n 3, 1) := by decide +kernel
theorem s232_66 {d : Nat} {st : List Value} {σ : am_I} {ρ : am_R} {g : am_J} {τ : am_T} {Q : am_Q} {x0 x1 x2 : Value} {v : Int32} : AW d 232 66 [x0, x1, x2, .int v] (st) σ ρ g τ Q = AW d 232 67 [x0, x1, x2, .int v] (.int v :: st) σ ρ g τ Q := aw_lc m232 d232_66 rfl rfl rfl
theorem d232_67 : decode cX12_mayBeOne 67 = .ok (.iconst 1, 1) := by decide +kernel
theorem s232_67 {d : Nat} {st : List Value} {σ : am_I} {ρ : am_R} {g : am_J} {τ : am_T} {Q : am_Q} {x0 x1 x2 x3 : Value} : AW d 232 67 [x0, x1, x2, x3] (st) σ ρ g τ Q = AW d 232 68 [x0, x1, x2, x3] (.int 1 :: st) σ ρ g τ Q := aw_lc m232 d232_67 rfl rfl rfl
theorem d232_68 : decode cX12_mayBeOne 68 = .ok (.if_icmp .gt 40, 3) := by decide +kernel
theorem s232_68 {d : Nat} {st : List Value} {σ : am_I} {ρ : am_R} {g : am_J} {τ : am_T} {Q : am_Q} {x0 x1 x2 x3 : Value} {v w : Int32} : AW d 232 68 [x0, x1, x2, x3] (.int w :: .int v :: st) σ ρ g τ Q = if w < v then AW d 232 108 [x0, x1, x2, x3] (st) σ ρ g τ Q else AW d 232 71 [x0, x1, x2, x3] (st) σ ρ g τ Q := aw_br m232 d232_68 rfl rfl rfl
theorem d232_71 : decode cX12_mayBeOne 71 = .ok (.aload_n 0, 1) := by decide +kernel
theorem s232_71 {d : Nat} {st : List Value} {σ : am_I} {ρ : am_R} {g : am_J} {τ : am_T} {Q : am_Q} {x1 x2 x3 : Value} {v : Nat} : AW d 232 71 [.ref v, x1, x2, x3] (st) σ ρ g τ Q = AW d 232 72 [.ref v, x1, x2, x3] (.ref v :: st) σ ρ g τ Q := aw_lc m232 d232_71 rfl rfl rfl
theorem d232_72 : decode cX12_mayBeOne 72 = .ok (.getfield 109, 3) := by decide +kernel
theorem s232_72 {d : Nat} {st : List Value} {σ : am_I} {ρ : am_R} {g : am_J} {τ : am_T} {Q : am_Q} {x0 x1 x2 x3 : Value} {a : Nat} (ht : τ.1 a = 12) : AW d 232 72 [x0, x1, x2, x3] (.ref a :: st) σ ρ g τ Q = AW d 232 75 [x0, x1, x2, x3] (va_rf (ρ a 33) :: st) σ ρ g τ Q := aw_gr m232 d232_72 rfl rfl rfl ht
theorem d232_75 : decode cX12_mayBeOne 75 = .ok (.iload_n 1, 1) := by decide +kernel
theorem s232_75 {d : Nat} {st : List Value} {σ : am_I} {ρ : am_R} {g : am_J} {τ : am_T} {Q : am_Q} {x0 x2 x3 : Value} {v : Int32} : AW d 232 75 [x0, .int v, x2, x3] (st) σ ρ g τ Q = AW d 232 76 [x0, .int v, x2, x3] (.int v :: st) σ ρ g τ Q := aw_lc m232 d232_75 rfl rfl rfl
theorem d232_76 : decode cX12_mayBeOne 76 = .ok (.iaload, 1) := by decide +kernel
theorem s232_76 {d : Nat} {st : List Value} {σ : am_I} {ρ : am_R} {g : am_J} {τ : am_T} {Q : am_Q} {x0 x1 x2 x3 : Value} {a : Nat} {j : Int32} (ht : τ.1 a = 15) (hj : am_inb j (τ.2.1 a) = true) : AW d 232 76 [x0, x1, x2, x3] (.int j :: .ref a :: st) σ ρ g τ Q = AW d 232 77 [x0, x1, x2, x3] (.int (σ a j.toNatClampNeg) :: st) σ ρ g τ Q := aw_ial m232 d232_76 rfl ht hj
theorem d232_77 : decode cX12_mayBeOne 77 = .ok (.aload_n 0, 1) := by decide +kernel
theorem s232_77 {d : Nat} {st : List Value} {σ : am_I} {ρ : am_R} {g : am_J} {τ : am_T} {Q : am_Q} {x1 x2 x3 : Value} {v : Nat} : AW d 232 77 [.ref v, x1, x2, x3] (st) σ ρ g τ Q = AW d 232 78 [.ref v, x1, x2, x3] (.ref v :: st) σ ρ g τ Q := aw_lc m232 d232_77 rfl rfl rfl
theorem d232_78 : decode cX12_mayBeOne 78 = .ok (.getfield 109, 3) := by decide +kernel
theorem s232_78 {d : Nat} {st : List Value} {σ : am_I} {ρ : am_R} {g : am_J} {τ : am_T} {Q : am_Q} {x0 x1 x2 x3 : Value} {a : Nat} (ht : τ.1 a = 12) : AW d 232 78 [x0, x1, x2, x3] (.ref a :: st) σ ρ g τ Q = AW d 232 81 [x0, x1, x2, x3] (va_rf (ρ a 33) :: st) σ ρ g τ Q := aw_gr m232 d232_78 rfl rfl rfl ht
theorem d232_81 : decode cX12_mayBeOne 81 = .ok (.iload_n 2, 1) := by decide +kernel
theorem s232_81 {d : Nat} {st : List Value} {σ : am_I} {ρ : am_R} {g : am_J} {τ : am_T} {Q : am_Q} {x0 x1 x3 : Value} {v : Int32} : AW d 232 81 [x0, x1, .int v, x3] (st) σ ρ g τ Q = AW d 232 82 [x0, x1, .int v, x3] (.int v :: st) σ ρ g τ Q := aw_lc m232 d232_81 rfl rfl rfl
theorem d232_82 : decode cX12_mayBeOne 82 = .ok (.iaload, 1) := by decide +kernel
theorem s232_82 {d : Nat} {st : List Value} {σ : am_I} {ρ : am_R} {g : am_J} {τ : am_T} {Q : am_Q} {x0 x1 x2 x3 : Value} {a : Nat} {j : Int32} (ht : τ.1 a = 15) (hj : am_inb j (τ.2.1 a) = true) : AW d 232 82 [x0, x1, x2, x3] (.int j :: .ref a :: st) σ ρ g τ Q = AW d 232 83 [x0, x1, x2, x3] (.int (σ a j.toNatClampNeg) :: st) σ ρ g τ Q := aw_ial m232 d232_82 rfl ht hj
theorem d232_83 : decode cX12_mayBeOne 83 = .ok (.if_icmp .eq 21, 3) := by decide +kernel
theorem s232_83 {d : Nat} {st : List Value} {σ : am_I} {ρ : am_R} {g : am_J} {τ : am_T} {Q : am_Q} {x0 x1 x2 x3 : Value} {v w : Int32} : AW d 232 83 [x0, x1, x2, x3] (.int w :: .int v :: st) σ ρ g τ Q = if v = w then AW d 232 104 [x0, x1, x2, x3] (st) σ ρ g τ Q else AW d 232 86 [x0, x1, x2, x3] (st) σ ρ g τ Q := aw_br m232 d232_83 rfl rfl rfl
theorem d232_86 : decode cX12_mayBeOne 86 = .ok (.aload_n 0, 1) := by decide +kernel
theorem s232_86 {d : Nat} {st : List Value} {σ : am_I} {ρ : am_R} {g : am_J} {τ : am_T} {Q : am_Q} {x1 x2 x3 : Value} {v : Nat} : AW d 232 86 [.ref v, x1, x2, x3] (st) σ ρ g τ Q = AW d 232 87 [.ref v, x1, x2, x3] (.ref v :: st) σ ρ g τ Q := aw_lc m232 d232_86 rfl rfl rfl
theorem d232_87 : decode cX12_mayBeOne 87 = .ok (.getfield 109, 3) := by decide +kernel
theorem s232_87 {d : Nat} {st : List Value} {σ : am_I} {ρ : am_R} {g : am_J} {τ : am_T} {Q : am_Q} {x0 x1 x2 x3 : Value} {a : Nat} (ht : τ.1 a = 12) : AW d 232 87 [x0, x1, x2, x3] (.ref a :: st) σ ρ g τ Q = AW d 232 90 [x0, x1, x2, x3] (va_rf (ρ a 33) :: st) σ ρ g τ Q := aw_gr m232 d232_87 rfl rfl rfl ht
theorem d232_90 : decode cX12_mayBeOne 90 = .ok (.iload_n 1, 1) := by decide +kernel
theorem s232_90 {d : Nat} {st : List Value} {σ : am_I} {ρ : am_R} {g : am_J} {τ : am_T} {Q : am_Q} {x0 x2 x3 : Value} {v : Int32} : AW d 232 90 [x0, .int v, x2, x3] (st) σ ρ g τ Q = AW d 232 91 [x0, .int v, x2, x3] (.int v :: st) σ ρ g τ Q := aw_lc m232 d232_90 rfl rfl rfl
theorem d232_91 : decode cX12_mayBeOne 91 = .ok (.iaload, 1) := by decide +kernel
theorem s232_91 {d : Nat} {st : List Value} {σ : am_I} {ρ : am_R} {g : am_J} {τ : am_T} {Q : am_Q} {x0 x1 x2 x3 : Value} {a : Nat} {j : Int32} (ht : τ.1 a = 15) (hj : am_inb j (τ.2.1 a) = true) : AW d 232 91 [x0, x1, x2, x3] (.int j :: .ref a :: st) σ ρ g τ Q = AW d 232 92 [x0, x1, x2, x3] (.int (σ a j.toNatClampNeg) :: st) σ ρ g τ Q := aw_ial m232 d232_91 rfl ht hj
theorem d232_92 : decode cX12_mayBeOne 92 = .ok (.ifCond .eq 12, 3) := by decide +kernel
theorem s232_92 {d : Nat} {st : List Value} {σ : am_I} {ρ : am_R} {g : am_J} {τ : am_T} {Q : am_Q} {x0 x1 x2 x3 : Value} {v : Int32} : AW d 232 92 [x0, x1, x2, x3] (.int v :: st) σ ρ g τ Q = if v = 0 then AW d 232 104 [x0, x1, x2, x3] (st) σ ρ g τ Q else AW d 232 95 [x0, x1, x2, x3] (st) σ ρ g τ Q := aw_br m232 d232_92 rfl rfl rfl
theorem d232_95 : decode cX12_mayBeOne 95 = .ok (.aload_n 0, 1) := by decide +kernel
theorem s232_95 {d : Nat} {st : List Value} {σ : am_I} {ρ : am_R} {g : am_J} {τ : am_T} {Q : am_Q} {x1 x2 x3 : Value} {v : Nat} : AW d 232 95 [.ref v, x1, x2, x3] (st) σ ρ g τ Q = AW d 232 96 [.ref v, x1, x2, x3] (.ref v :: st) σ ρ g τ Q := aw_lc m232 d232_95 rfl rfl rfl
theorem d232_96 : decode cX12_mayBeOne 96 = .ok (.getfield 109, 3) := by decide +kernel
theorem s232_96 {d : Nat} {st : List Value} {σ : am_I} {ρ : am_R} {g : am_J} {τ : am_T} {Q : am_Q} {x0 x1 x2 x3 : Value} {a : Nat} (ht : τ.1 a = 12) : AW d 232 96 [x0, x1, x2, x3] (.ref a :: st) σ ρ g τ Q = AW d 232 99 [x0, x1, x2, x3] (va_rf (ρ a 33) :: st) σ ρ g τ Q := aw_gr m232 d232_96 rfl rfl rfl ht
theorem d232_99 : decode cX12_mayBeOne 99 = .ok (.iload_n 2, 1) := by decide +kernel
theorem s232_99 {d : Nat} {st : List Value} {σ : am_I} {ρ : am_R} {g : am_J} {τ : am_T} {Q : am_Q} {x0 x1 x3 : Value} {v : Int32} : AW d 232 99 [x0, x1, .int v, x3] (st) σ ρ g τ Q = AW d 232 100 [x0, x1, .int v, x3] (.int v :: st) σ ρ g τ Q := aw_lc m232 d232_99 rfl rfl rfl
theorem d232_100 : decode cX12_mayBeOne 100 = .ok (.iaload, 1) := by decide +kernel
theorem s232_100 {d : Nat} {st : List Value} {σ : am_I} {ρ : am_R} {g : am_J} {τ : am_T} {Q : am_Q} {x0 x1 x2 x3 : Value} {a : Nat} {j : Int32} (ht : τ.1 a = 15) (hj : am_inb j (τ.2.1 a) = true) : AW d 232 100 [x0, x1, x2, x3] (.int j :: .ref a :: st) σ ρ g τ Q = AW d 232 101 [x0, x1, x2, x3] (.int (σ a j.toNatClampNeg) :: st) σ ρ g τ Q := aw_ial m232 d232_100 rfl ht hj
theorem d232_101 : decode cX12_mayBeOne 101 = .ok (.ifCond .ne 7, 3) := by decide +kernel
theorem s232_101 {d : Nat} {st : List Value} {σ : am_I} {ρ : am_R} {g : am_J} {τ : am_T} {Q : am_Q} {x0 x1 x2 x3 : Value} {v : Int32} : AW d 232 101 [x0, x1, x2, x3] (.int v :: st) σ ρ g τ Q = if ¬ v = 0 then AW d 232 108 [x0, x1, x2, x3] (st) σ ρ g τ Q else AW d 232 104 [x0, x1, x2, x3] (st) σ ρ g τ Q := aw_br m232 d232_101 rfl rfl rfl
theorem d232_104 : decode cX12_mayBeOne 104 = .ok (.iconst 1, 1) := by decide +kernel
theorem s232_104 {d : Nat} {st : List Value} {σ : am_I} {ρ : am_R} {g : am_J} {τ : am_T} {Q : am_Q} {x0 x1 x2 x3 : Value} : AW d 232 104 [x0, x1, x2, x3] (st) σ ρ g τ Q = AW d 232 105 [x0, x1, x2, x3] (.int 1 :: st) σ ρ g τ Q := aw_lc m232 d232_104 rfl rfl rfl
theorem d232_105 : decode cX12_mayBeOne 105 = .ok (.goto 4, 3) := by decide +kernel
theorem s232_105 {d : Nat} {st : List Value} {σ : am_I} {ρ : am_R} {g : am_J} {τ : am_T} {Q : am_Q} {x0 x1 x2 x3 : Value} : AW d 232 105 [x0, x1, x2, x3] (st) σ ρ g τ Q = AW d 232 109 [x0, x1, x2, x3] (st) σ ρ g τ Q := aw_lc m232 d232_105 rfl rfl rfl
theorem d232_108 : decode cX12_mayBeOne 108 = .ok (.iconst 0, 1) := by decide +kernel
theorem s232_108 {d : Nat} {st : List Value} {σ : am_I} {ρ : am_R} {g : am_J} {τ : am_T} {Q : am_Q} {x0 x1 x2 x3 : Value} : AW d 232 108 [x0, x1, x2, x3] (st) σ ρ g τ Q = AW d 232 109 [x0, x1, x2, x3] (.int 0 :: st) σ ρ g τ Q := aw_lc m232 d232_108 rfl rfl rfl
theorem d232_109 : decode cX12_mayBeOne 109 = .ok (.ireturn, 1) := by decide +kernel
theorem s232_109 {d : Nat} {σ : am_I} {ρ : am_R} {g : am_J} {τ : am_T} {Q : am_Q} {x0 x1 x2 x3 : Value} {v : Int32} (hv : am_b01 v = true) : AW d 232 109 [x0, x1, x2, x3] ([.int v]) σ ρ g τ Q = Q (some (.int v)) σ ρ g τ := aw_rz m232 d232_109 rfl hv
theorem d233_0 : decode cX12_others 0 = .ok (.iconst 0, 1) := by decide +kernel
theorem s233_0 {d : Nat} {st : List Value} {σ : am_I} {ρ : am_R} {g : am_J} {τ : am_T} {Q : am_Q} {x0 x1 x2 x3 : Value} : AW d 233 0 [x0, x1, x2, x3] (st) σ ρ g τ Q = AW d 233 1 [x0, x1, x2, x3] (.int 0 :: st) σ ρ g τ Q := aw_lc m233 d233_0 rfl rfl rfl
theorem d233_1 : decode cX12_others 1 = .ok (.istore_n 2, 1) := by decide +kernel
theorem s233_1 {d : Nat} {st : List Value} {σ : am_I} {ρ : am_R} {g : am_J} {τ : am_T} {Q : am_Q} {x0 x2 x3 : Value} {v : Int32} {u : Int32} : AW d 233 1 [x0, .int u, x2, x3] (.int v :: st) σ ρ g τ Q = AW d 233 2 [x0, .int u, .int v, x3] (st) σ ρ g τ Q := aw_lc m233 d233_1 rfl rfl rfl
theorem d233_2 : decode cX12_others 2 = .ok (.iconst 0, 1) := by decide +kernel
theorem s233_2 {d : Nat} {st : List Value} {σ : am_I} {ρ : am_R} {g : am_J} {τ : am_T} {Q : am_Q} {x0 x1 x2 x3 : Value} : AW d 233 2 [x0, x1, x2, x3] (st) σ ρ g τ Q = AW d 233 3 [x0, x1, x2, x3] (.int 0 :: st) σ ρ g τ Q := aw_lc m233 d233_2 rfl rfl rfl
theorem d233_3 : decode cX12_others 3 = .ok (.istore_n 3, 1) := by decide +kernel
theorem s233_3 {d : Nat} {st : List Value} {σ : am_I} {ρ : am_R} {g : am_J} {τ : am_T} {Q : am_Q} {x0 x1 x3 : Value} {v : Int32} {u : Int32} : AW d 233 3 [x0, x1, .int u, x3] (.int v :: st) σ ρ g τ Q = AW d 233 4 [x0, x1, .int u, .int v] (st) σ ρ g τ Q := aw_lc m233 d233_3 rfl rfl rfl
theorem d233_4 : decode cX12_others 4 = .ok (.iload_n 3, 1) := by decide +kernel
theorem s233_4 {d : Nat} {st : List Value} {σ : am_I} {ρ : am_R} {g : am_J} {τ : am_T} {Q : am_Q} {x0 x1 x2 : Value} {v : Int32} : AW d 233 4 [x0, x1, x2, .int v] (st) σ ρ g τ Q = AW d 233 5 [x0, x1, x2, .int v] (.int v :: st) σ ρ g τ Q := aw_lc m233 d233_4 rfl rfl rfl
theorem d233_5 : decode cX12_others 5 = .ok (.aload_n 0, 1) := by decide +kernel
theorem s233_5 {d : Nat} {st : List Value} {σ : am_I} {ρ : am_R} {g : am_J} {τ : am_T} {Q : am_Q} {x1 x2 x3 : Value} {v : Nat} : AW d 233 5 [.ref v, x1, x2, x3] (st) σ ρ g τ Q = AW d 233 6 [.ref v, x1, x2, x3] (.ref v :: st) σ ρ g τ Q := aw_lc m233 d233_5 rfl rfl rfl
theorem d233_6 : decode cX12_others 6 = .ok (.getfield 9, 3) := by decide +kernel
theorem s233_6 {d : Nat} {st : List Value} {σ : am_I} {ρ : am_R} {g : am_J} {τ : am_T} {Q : am_Q} {x0 x1 x2 x3 : Value} {a : Nat} (ht : τ.1 a = 12) : AW d 233 6 [x0, x1, x2, x3] (.ref a :: st) σ ρ g τ Q = AW d 233 9 [x0, x1, x2, x3] (va_rf (ρ a 0) :: st) σ ρ g τ Q := aw_gr m233 d233_6 rfl rfl rfl ht
theorem d233_9 : decode cX12_others 9 = .ok (.iconst 5, 1) := by decide +kernel
theorem s233_9 {d : Nat} {st : List Value} {σ : am_I} {ρ : am_R} {g : am_J} {τ : am_T} {Q : am_Q} {x0 x1 x2 x3 : Value} : AW d 233 9 [x0, x1, x2, x3] (st) σ ρ g τ Q = AW d 233 10 [x0, x1, x2, x3] (.int 5 :: st) σ ρ g τ Q := aw_lc m233 d233_9 rfl rfl rfl
theorem d233_10 : decode cX12_others 10 = .ok (.iaload, 1) := by decide +kernel
theorem s233_10 {d : Nat} {st : List Value} {σ : am_I} {ρ : am_R} {g : am_J} {τ : am_T} {Q : am_Q} {x0 x1 x2 x3 : Value} {a : Nat} {j : Int32} (ht : τ.1 a = 15) (hj : am_inb j (τ.2.1 a) = true) : AW d 233 10 [x0, x1, x2, x3] (.int j :: .ref a :: st) σ ρ g τ Q = AW d 233 11 [x0, x1, x2, x3] (.int (σ a j.toNatClampNeg) :: st) σ ρ g τ Q := aw_ial m233 d233_10 rfl ht hj
theorem d233_11 : decode cX12_others 11 = .ok (.if_icmp .ge 26, 3) := by decide +kernel
theorem s233_11 {d : Nat} {st : List Value} {σ : am_I} {ρ : am_R} {g : am_J} {τ : am_T} {Q : am_Q} {x0 x1 x2 x3 : Value} {v w : Int32} : AW d 233 11 [x0, x1, x2, x3] (.int w :: .int v :: st) σ ρ g τ Q = if w ≤ v then AW d 233 37 [x0, x1, x2, x3] (st) σ ρ g τ Q else AW d 233 14 [x0, x1, x2, x3] (st) σ ρ g τ Q := aw_br m233 d233_11 rfl rfl rfl
theorem d233_14 : decode cX12_others 14 = .ok (.iload_n 3, 1) := by decide +kernel
theorem s233_14 {d : Nat} {st : List Value} {σ : am_I} {ρ : am_R} {g : am_J} {τ : am_T} {Q : am_Q} {x0 x1 x2 : Value} {v : Int32} : AW d 233 14 [x0, x1, x2, .int v] (st) σ ρ g τ Q = AW d 233 15 [x0, x1, x2, .int v] (.int v :: st) σ ρ g τ Q := aw_lc m233 d233_14 rfl rfl rfl
theorem d233_15 : decode cX12_others 15 = .ok (.iload_n 1, 1) := by decide +kernel
theorem s233_15 {d : Nat} {st : List Value} {σ : am_I} {ρ : am_R} {g : am_J} {τ : am_T} {Q : am_Q} {x0 x2 x3 : Value} {v : Int32} : AW d 233 15 [x0, .int v, x2, x3] (st) σ ρ g τ Q = AW d 233 16 [x0, .int v, x2, x3] (.int v :: st) σ ρ g τ Q := aw_lc m233 d233_15 rfl rfl rfl
theorem d233_16 : decode cX12_others 16 = .ok (.if_icmp .eq 15, 3) := by decide +kernel
theorem s233_16 {d : Nat} {st : List Value} {σ : am_I} {ρ : am_R} {g : am_J} {τ : am_T} {Q : am_Q} {x0 x1 x2 x3 : Value} {v w : Int32} : AW d 233 16 [x0, x1, x2, x3] (.int w :: .int v :: st) σ ρ g τ Q = if v = w then AW d 233 31 [x0, x1, x2, x3] (st) σ ρ g τ Q else AW d 233 19 [x0, x1, x2, x3] (st) σ ρ g τ Q := aw_br m233 d233_16 rfl rfl rfl
theorem d233_19 : decode cX12_others 19 = .ok (.aload_n 0, 1) := by decide +kernel
theorem s233_19 {d : Nat} {st : List Value} {σ : am_I} {ρ : am_R} {g : am_J} {τ : am_T} {Q : am_Q} {x1 x2 x3 : Value} {v : Nat} : AW d 233 19 [.ref v, x1, x2, x3] (st) σ ρ g τ Q = AW d 233 20 [.ref v, x1, x2, x3] (.ref v :: st) σ ρ g τ Q := aw_lc m233 d233_19 rfl rfl rfl
theorem d233_20 : decode cX12_others 20 = .ok (.iload_n 1, 1) := by decide +kernel
theorem s233_20 {d : Nat} {st : List Value} {σ : am_I} {ρ : am_R} {g : am_J} {τ : am_T} {Q : am_Q} {x0 x2 x3 : Value} {v : Int32} : AW d 233 20 [x0, .int v, x2, x3] (st) σ ρ g τ Q = AW d 233 21 [x0, .int v, x2, x3] (.int v :: st) σ ρ g τ Q := aw_lc m233 d233_20 rfl rfl rfl
theorem d233_21 : decode cX12_others 21 = .ok (.iload_n 3, 1) := by decide +kernel
theorem s233_21 {d : Nat} {st : List Value} {σ : am_I} {ρ : am_R} {g : am_J} {τ : am_T} {Q : am_Q} {x0 x1 x2 : Value} {v : Int32} : AW d 233 21 [x0, x1, x2, .int v] (st) σ ρ g τ Q = AW d 233 22 [x0, x1, x2, .int v] (.int v :: st) σ ρ g τ Q := aw_lc m233 d233_21 rfl rfl rfl
theorem d233_22 : decode cX12_others 22 = .ok (.invokevirtual 410, 3) := by decide +kernel
theorem s233_22 {d : Nat} {st : List Value} {σ : am_I} {ρ : am_R} {g : am_J} {τ : am_T} {Q : am_Q} {x0 x1 x2 x3 : Value} {p0 : Nat} {p1 : Int32} {p2 : Int32} (ht : τ.1 p0 = 12) (hs : st.length ≤ 4) : AW (d + 1) 233 22 [x0, x1, x2, x3] (.int p2 :: .int p1 :: .ref p0 :: st) σ ρ g τ Q = AW d 232 0 [.ref p0, .int p1, .int p2, am_jk] [] σ ρ g τ (fun r9 σ ρ g τ => AW (d + 1) 233 25 [x0, x1, x2, x3] (r9.toList ++ st) σ ρ g τ Q) := aw_cv m233 d233_22 rfl m232 rfl rfl (by decide) en232 ok232 rfl ht hs
theorem d233_25 : decode cX12_others 25 = .ok (.ifCond .eq 6, 3) := by decide +kernel
theorem s233_25 {d : Nat} {st : List Value} {σ : am_I} {ρ : am_R} {g : am_J} {τ : am_T} {Q : am_Q} {x0 x1 x2 x3 : Value} {v : Int32} : AW d 233 25 [x0, x1, x2, x3] (.int v :: st) σ ρ g τ Q = if v = 0 then AW d 233 31 [x0, x1, x2, x3] (st) σ ρ g τ Q else AW d 233 28 [x0, x1, x2, x3] (st) σ ρ g τ Q := aw_br m233 d233_25 rfl rfl rfl
theorem d233_28 : decode cX12_others 28 = .ok (.iinc 2 1, 3) := by decide +kernel
theorem s233_28 {d : Nat} {st : List Value} {σ : am_I} {ρ : am_R} {g : am_J} {τ : am_T} {Q : am_Q} {x0 x3 : Value} {v : Int32} {u : Int32} : AW d 233 28 [x0, .int u, .int v, x3] (st) σ ρ g τ Q = AW d 233 31 [x0, .int u, .int (v + 1), x3] (st) σ ρ g τ Q := aw_lc m233 d233_28 rfl rfl rfl
theorem d233_31 : decode cX12_others 31 = .ok (.iinc 3 1, 3) := by decide +kernel
theorem s233_31 {d : Nat} {st : List Value} {σ : am_I} {ρ : am_R} {g : am_J} {τ : am_T} {Q : am_Q} {x0 x1 : Value} {v : Int32} {u : Int32} : AW d 233 31 [x0, x1, .int u, .int v] (st) σ ρ g τ Q = AW d 233 34 [x0, x1, .int u, .int (v + 1)] (st) σ ρ g τ Q := aw_lc m233 d233_31 rfl rfl rfl
theorem d233_34 : decode cX12_others 34 = .ok (.goto (-30), 3) := by decide +kernel
theorem s233_34 {d : Nat} {st : List Value} {σ : am_I} {ρ : am_R} {g : am_J} {τ : am_T} {Q : am_Q} {x0 x1 x2 x3 : Value} : AW d 233 34 [x0, x1, x2, x3] (st) σ ρ g τ Q = AW d 233 4 [x0, x1, x2, x3] (st) σ ρ g τ Q := aw_lc m233 d233_34 rfl rfl rfl
theorem d233_37 : decode cX12_others 37 = .ok (.iload_n 2, 1) := by decide +kernel
theorem s233_37 {d : Nat} {st : List Value} {σ : am_I} {ρ : am_R} {g : am_J} {τ : am_T} {Q : am_Q} {x0 x1 x3 : Value} {v : Int32} : AW d 233 37 [x0, x1, .int v, x3] (st) σ ρ g τ Q = AW d 233 38 [x0, x1, .int v, x3] (.int v :: st) σ ρ g τ Q := aw_lc m233 d233_37 rfl rfl rfl
theorem d233_38 : decode cX12_others 38 = .ok (.ireturn, 1) := by decide +kernel
theorem s233_38 {d : Nat} {σ : am_I} {ρ : am_R} {g : am_J} {τ : am_T} {Q : am_Q} {x0 x1 x2 x3 : Value} {v : Int32} : AW d 233 38 [x0, x1, x2, x3] ([.int v]) σ ρ g τ Q = Q (some (.int v)) σ ρ g τ := aw_ri m233 d233_38 rfl
theorem d234_0 : decode cX12_finds 0 = .ok (.iconst 0, 1) := by decide +kernel
theorem s234_0 {d : Nat} {st : List Value} {σ : am_I} {ρ : am_R} {g : am_J} {τ : am_T} {Q : am_Q} {x0 x1 x2 : Value} : AW d 234 0 [x0, x1, x2] (st) σ ρ g τ Q = AW d 234 1 [x0, x1, x2] (.int 0 :: st) σ ρ g τ Q := aw_lc m234 d234_0 rfl rfl rfl
theorem d234_1 : decode cX12_finds 1 = .ok (.istore_n 2, 1) := by decide +kernel
theorem s234_1 {d : Nat} {st : List Value} {σ : am_I} {ρ : am_R} {g : am_J} {τ : am_T} {Q : am_Q} {x0 x2 : Value} {v : Int32} {u : Int32} : AW d 234 1 [x0, .int u, x2] (.int v :: st) σ ρ g τ Q = AW d 234 2 [x0, .int u, .int v] (st) σ ρ g τ Q := aw_lc m234 d234_1 rfl rfl rfl
theorem d234_2 : decode cX12_finds 2 = .ok (.iload_n 2, 1) := by decide +kernel
theorem s234_2 {d : Nat} {st : List Value} {σ : am_I} {ρ : am_R} {g : am_J} {τ : am_T} {Q : am_Q} {x0 x1 : Value} {v : Int32} : AW d 234 2 [x0, x1, .int v] (st) σ ρ g τ Q = AW d 234 3 [x0, x1, .int v] (.int v :: st) σ ρ g τ Q := aw_lc m234 d234_2 rfl rfl rfl
theorem d234_3 : decode cX12_finds 3 = .ok (.aload_n 0, 1) := by decide +kernel
theorem s234_3 {d : Nat} {st : List Value} {σ : am_I} {ρ : am_R} {g : am_J} {τ : am_T} {Q : am_Q} {x1 x2 : Value} {v : Nat} : AW d 234 3 [.ref v, x1, x2] (st) σ ρ g τ Q = AW d 234 4 [.ref v, x1, x2] (.ref v :: st) σ ρ g τ Q := aw_lc m234 d234_3 rfl rfl rfl
theorem d234_4 : decode cX12_finds 4 = .ok (.getfield 9, 3) := by decide +kernel
theorem s234_4 {d : Nat} {st : List Value} {σ : am_I} {ρ : am_R} {g : am_J} {τ : am_T} {Q : am_Q} {x0 x1 x2 : Value} {a : Nat} (ht : τ.1 a = 12) : AW d 234 4 [x0, x1, x2] (.ref a :: st) σ ρ g τ Q = AW d 234 7 [x0, x1, x2] (va_rf (ρ a 0) :: st) σ ρ g τ Q := aw_gr m234 d234_4 rfl rfl rfl ht
theorem d234_7 : decode cX12_finds 7 = .ok (.iconst 5, 1) := by decide +kernel
theorem s234_7 {d : Nat} {st : List Value} {σ : am_I} {ρ : am_R} {g : am_J} {τ : am_T} {Q : am_Q} {x0 x1 x2 : Value} : AW d 234 7 [x0, x1, x2] (st) σ ρ g τ Q = AW d 234 8 [x0, x1, x2] (.int 5 :: st) σ ρ g τ Q := aw_lc m234 d234_7 rfl rfl rfl
theorem d234_8 : decode cX12_finds 8 = .ok (.iaload, 1) := by decide +kernel
theorem s234_8 {d : Nat} {st : List Value} {σ : am_I} {ρ : am_R} {g : am_J} {τ : am_T} {Q : am_Q} {x0 x1 x2 : Value} {a : Nat} {j : Int32} (ht : τ.1 a = 15) (hj : am_inb j (τ.2.1 a) = true) : AW d 234 8 [x0, x1, x2] (.int j :: .ref a :: st) σ ρ g τ Q = AW d 234 9 [x0, x1, x2] (.int (σ a j.toNatClampNeg) :: st) σ ρ g τ Q := aw_ial m234 d234_8 rfl ht hj
theorem d234_9 : decode cX12_finds 9 = .ok (.if_icmp .ge 68, 3) := by decide +kernel
theorem s234_9 {d : Nat} {st : List Value} {σ : am_I} {ρ : am_R} {g : am_J} {τ : am_T} {Q : am_Q} {x0 x1 x2 : Value} {v w : Int32} : AW d 234 9 [x0, x1, x2] (.int w :: .int v :: st) σ ρ g τ Q = if w ≤ v then AW d 234 77 [x0, x1, x2] (st) σ ρ g τ Q else AW d 234 12 [x0, x1, x2] (st) σ ρ g τ Q := aw_br m234 d234_9 rfl rfl rfl
theorem d234_12 : decode cX12_finds 12 = .ok (.aload_n 0, 1) := by decide +kernel
theorem s234_12 {d : Nat} {st : List Value} {σ : am_I} {ρ : am_R} {g : am_J} {τ : am_T} {Q : am_Q} {x1 x2 : Value} {v : Nat} : AW d 234 12 [.ref v, x1, x2] (st) σ ρ g τ Q = AW d 234 13 [.ref v, x1, x2] (.ref v :: st) σ ρ g τ Q := aw_lc m234 d234_12 rfl rfl rfl
theorem d234_13 : decode cX12_finds 13 = .ok (.getfield 191, 3) := by decide +kernel
theorem s234_13 {d : Nat} {st : List Value} {σ : am_I} {ρ : am_R} {g : am_J} {τ : am_T} {Q : am_Q} {x0 x1 x2 : Value} {a : Nat} (ht : τ.1 a = 12) : AW d 234 13 [x0, x1, x2] (.ref a :: st) σ ρ g τ Q = AW d 234 16 [x0, x1, x2] (va_rf (ρ a 69) :: st) σ ρ g τ Q := aw_gr m234 d234_13 rfl rfl rfl ht
theorem d234_16 : decode cX12_finds 16 = .ok (.iload_n 2, 1) := by decide +kernel
theorem s234_16 {d : Nat} {st : List Value} {σ : am_I} {ρ : am_R} {g : am_J} {τ : am_T} {Q : am_Q} {x0 x1 : Value} {v : Int32} : AW d 234 16 [x0, x1, .int v] (st) σ ρ g τ Q = AW d 234 17 [x0, x1, .int v] (.int v :: st) σ ρ g τ Q := aw_lc m234 d234_16 rfl rfl rfl
theorem d234_17 : decode cX12_finds 17 = .ok (.baload, 1) := by decide +kernel
theorem s234_17 {d : Nat} {st : List Value} {σ : am_I} {ρ : am_R} {g : am_J} {τ : am_T} {Q : am_Q} {x0 x1 x2 : Value} {a : Nat} {j : Int32} (ht : τ.1 a = 14 ∨ τ.1 a = 17) (hj : am_inb j (τ.2.1 a) = true) : AW d 234 17 [x0, x1, x2] (.int j :: .ref a :: st) σ ρ g τ Q = AW d 234 18 [x0, x1, x2] (.int (σ a j.toNatClampNeg) :: st) σ ρ g τ Q := aw_bal m234 d234_17 rfl ht hj
theorem d234_18 : decode cX12_finds 18 = .ok (.ifCond .ne 53, 3) := by decide +kernel
theorem s234_18 {d : Nat} {st : List Value} {σ : am_I} {ρ : am_R} {g : am_J} {τ : am_T} {Q : am_Q} {x0 x1 x2 : Value} {v : Int32} : AW d 234 18 [x0, x1, x2] (.int v :: st) σ ρ g τ Q = if ¬ v = 0 then AW d 234 71 [x0, x1, x2] (st) σ ρ g τ Q else AW d 234 21 [x0, x1, x2] (st) σ ρ g τ Q := aw_br m234 d234_18 rfl rfl rfl
theorem d234_21 : decode cX12_finds 21 = .ok (.aload_n 0, 1) := by decide +kernel
theorem s234_21 {d : Nat} {st : List Value} {σ : am_I} {ρ : am_R} {g : am_J} {τ : am_T} {Q : am_Q} {x1 x2 : Value} {v : Nat} : AW d 234 21 [.ref v, x1, x2] (st) σ ρ g τ Q = AW d 234 22 [.ref v, x1, x2] (.ref v :: st) σ ρ g τ Q := aw_lc m234 d234_21 rfl rfl rfl
theorem d234_22 : decode cX12_finds 22 = .ok (.iload_n 1, 1) := by decide +kernel
theorem s234_22 {d : Nat} {st : List Value} {σ : am_I} {ρ : am_R} {g : am_J} {τ : am_T} {Q : am_Q} {x0 x2 : Value} {v : Int32} : AW d 234 22 [x0, .int v, x2] (st) σ ρ g τ Q = AW d 234 23 [x0, .int v, x2] (.int v :: st) σ ρ g τ Q := aw_lc m234 d234_22 rfl rfl rfl
theorem d234_23 : decode cX12_finds 23 = .ok (.iload_n 2, 1) := by decide +kernel
theorem s234_23 {d : Nat} {st : List Value} {σ : am_I} {ρ : am_R} {g : am_J} {τ : am_T} {Q : am_Q} {x0 x1 : Value} {v : Int32} : AW d 234 23 [x0, x1, .int v] (st) σ ρ g τ Q = AW d 234 24 [x0, x1, .int v] (.int v :: st) σ ρ g τ Q := aw_lc m234 d234_23 rfl rfl rfl
theorem d234_24 : decode cX12_finds 24 = .ok (.invokevirtual 410, 3) := by decide +kernel
theorem s234_24 {d : Nat} {st : List Value} {σ : am_I} {ρ : am_R} {g : am_J} {τ : am_T} {Q : am_Q} {x0 x1 x2 : Value} {p0 : Nat} {p1 : Int32} {p2 : Int32} (ht : τ.1 p0 = 12) (hs : st.length ≤ 4) : AW (d + 1) 234 24 [x0, x1, x2] (.int p2 :: .int p1 :: .ref p0 :: st) σ ρ g τ Q = AW d 232 0 [.ref p0, .int p1, .int p2, am_jk] [] σ ρ g τ (fun r9 σ ρ g τ => AW (d + 1) 234 27 [x0, x1, x2] (r9.toList ++ st) σ ρ g τ Q) := aw_cv m234 d234_24 rfl m232 rfl rfl (by decide) en232 ok232 rfl ht hs
theorem d234_27 : decode cX12_finds 27 = .ok (.ifCond .ne 6, 3) := by decide +kernel
theorem s234_27 {d : Nat} {st : List Value} {σ : am_I} {ρ : am_R} {g : am_J} {τ : am_T} {Q : am_Q} {x0 x1 x2 : Value} {v : Int32} : AW d 234 27 [x0, x1, x2] (.int v :: st) σ ρ g τ Q = if ¬ v = 0 then AW d 234 33 [x0, x1, x2] (st) σ ρ g τ Q else AW d 234 30 [x0, x1, x2] (st) σ ρ g τ Q := aw_br m234 d234_27 rfl rfl rfl
theorem d234_30 : decode cX12_finds 30 = .ok (.goto 41, 3) := by decide +kernel
theorem s234_30 {d : Nat} {st : List Value} {σ : am_I} {ρ : am_R} {g : am_J} {τ : am_T} {Q : am_Q} {x0 x1 x2 : Value} : AW d 234 30 [x0, x1, x2] (st) σ ρ g τ Q = AW d 234 71 [x0, x1, x2] (st) σ ρ g τ Q := aw_lc m234 d234_30 rfl rfl rfl
theorem d234_33 : decode cX12_finds 33 = .ok (.aload_n 0, 1) := by decide +kernel
theorem s234_33 {d : Nat} {st : List Value} {σ : am_I} {ρ : am_R} {g : am_J} {τ : am_T} {Q : am_Q} {x1 x2 : Value} {v : Nat} : AW d 234 33 [.ref v, x1, x2] (st) σ ρ g τ Q = AW d 234 34 [.ref v, x1, x2] (.ref v :: st) σ ρ g τ Q := aw_lc m234 d234_33 rfl rfl rfl
theorem d234_34 : decode cX12_finds 34 = .ok (.getfield 191, 3) := by decide +kernel
theorem s234_34 {d : Nat} {st : List Value} {σ : am_I} {ρ : am_R} {g : am_J} {τ : am_T} {Q : am_Q} {x0 x1 x2 : Value} {a : Nat} (ht : τ.1 a = 12) : AW d 234 34 [x0, x1, x2] (.ref a :: st) σ ρ g τ Q = AW d 234 37 [x0, x1, x2] (va_rf (ρ a 69) :: st) σ ρ g τ Q := aw_gr m234 d234_34 rfl rfl rfl ht
theorem d234_37 : decode cX12_finds 37 = .ok (.iload_n 2, 1) := by decide +kernel
theorem s234_37 {d : Nat} {st : List Value} {σ : am_I} {ρ : am_R} {g : am_J} {τ : am_T} {Q : am_Q} {x0 x1 : Value} {v : Int32} : AW d 234 37 [x0, x1, .int v] (st) σ ρ g τ Q = AW d 234 38 [x0, x1, .int v] (.int v :: st) σ ρ g τ Q := aw_lc m234 d234_37 rfl rfl rfl
theorem d234_38 : decode cX12_finds 38 = .ok (.iconst 1, 1) := by decide +kernel
theorem s234_38 {d : Nat} {st : List Value} {σ : am_I} {ρ : am_R} {g : am_J} {τ : am_T} {Q : am_Q} {x0 x1 x2 : Value} : AW d 234 38 [x0, x1, x2] (st) σ ρ g τ Q = AW d 234 39 [x0, x1, x2] (.int 1 :: st) σ ρ g τ Q := aw_lc m234 d234_38 rfl rfl rfl
theorem d234_39 : decode cX12_finds 39 = .ok (.bastore, 1) := by decide +kernel
theorem s234_39 {d : Nat} {st : List Value} {σ : am_I} {ρ : am_R} {g : am_J} {τ : am_T} {Q : am_Q} {x0 x1 x2 : Value} {a : Nat} {j v : Int32} (ht : τ.1 a = 17) (ha : a < am_BG) (hj : am_inb j (τ.2.1 a) = true) (hv : am_b01 v = true) : AW d 234 39 [x0, x1, x2] (.int v :: .int j :: .ref a :: st) σ ρ g τ Q = AW d 234 40 [x0, x1, x2] (st) (am_u σ a j.toNatClampNeg v) ρ g τ Q := aw_zas m234 d234_39 rfl ht ha hj hv
theorem d234_40 : decode cX12_finds 40 = .ok (.aload_n 0, 1) := by decide +kernel
theorem s234_40 {d : Nat} {st : List Value} {σ : am_I} {ρ : am_R} {g : am_J} {τ : am_T} {Q : am_Q} {x1 x2 : Value} {v : Nat} : AW d 234 40 [.ref v, x1, x2] (st) σ ρ g τ Q = AW d 234 41 [.ref v, x1, x2] (.ref v :: st) σ ρ g τ Q := aw_lc m234 d234_40 rfl rfl rfl
theorem d234_41 : decode cX12_finds 41 = .ok (.getfield 188, 3) := by decide +kernel
theorem s234_41 {d : Nat} {st : List Value} {σ : am_I} {ρ : am_R} {g : am_J} {τ : am_T} {Q : am_Q} {x0 x1 x2 : Value} {a : Nat} (ht : τ.1 a = 12) : AW d 234 41 [x0, x1, x2] (.ref a :: st) σ ρ g τ Q = AW d 234 44 [x0, x1, x2] (va_rf (ρ a 68) :: st) σ ρ g τ Q := aw_gr m234 d234_41 rfl rfl rfl ht
theorem d234_44 : decode cX12_finds 44 = .ok (.iload_n 2, 1) := by decide +kernel
theorem s234_44 {d : Nat} {st : List Value} {σ : am_I} {ρ : am_R} {g : am_J} {τ : am_T} {Q : am_Q} {x0 x1 : Value} {v : Int32} : AW d 234 44 [x0, x1, .int v] (st) σ ρ g τ Q = AW d 234 45 [x0, x1, .int v] (.int v :: st) σ ρ g τ Q := aw_lc m234 d234_44 rfl rfl rfl
theorem d234_45 : decode cX12_finds 45 = .ok (.iaload, 1) := by decide +kernel
theorem s234_45 {d : Nat} {st : List Value} {σ : am_I} {ρ : am_R} {g : am_J} {τ : am_T} {Q : am_Q} {x0 x1 x2 : Value} {a : Nat} {j : Int32} (ht : τ.1 a = 15) (hj : am_inb j (τ.2.1 a) = true) : AW d 234 45 [x0, x1, x2] (.int j :: .ref a :: st) σ ρ g τ Q = AW d 234 46 [x0, x1, x2] (.int (σ a j.toNatClampNeg) :: st) σ ρ g τ Q := aw_ial m234 d234_45 rfl ht hj
theorem d234_46 : decode cX12_finds 46 = .ok (.ifCond .lt 16, 3) := by decide +kernel
theorem s234_46 {d : Nat} {st : List Value} {σ : am_I} {ρ : am_R} {g : am_J} {τ : am_T} {Q : am_Q} {x0 x1 x2 : Value} {v : Int32} : AW d 234 46 [x0, x1, x2] (.int v :: st) σ ρ g τ Q = if v < 0 then AW d 234 62 [x0, x1, x2] (st) σ ρ g τ Q else AW d 234 49 [x0, x1, x2] (st) σ ρ g τ Q := aw_br m234 d234_46 rfl rfl rfl
theorem d234_49 : decode cX12_finds 49 = .ok (.aload_n 0, 1) := by decide +kernel
theorem s234_49 {d : Nat} {st : List Value} {σ : am_I} {ρ : am_R} {g : am_J} {τ : am_T} {Q : am_Q} {x1 x2 : Value} {v : Nat} : AW d 234 49 [.ref v, x1, x2] (st) σ ρ g τ Q = AW d 234 50 [.ref v, x1, x2] (.ref v :: st) σ ρ g τ Q := aw_lc m234 d234_49 rfl rfl rfl
theorem d234_50 : decode cX12_finds 50 = .ok (.aload_n 0, 1) := by decide +kernel
theorem s234_50 {d : Nat} {st : List Value} {σ : am_I} {ρ : am_R} {g : am_J} {τ : am_T} {Q : am_Q} {x1 x2 : Value} {v : Nat} : AW d 234 50 [.ref v, x1, x2] (st) σ ρ g τ Q = AW d 234 51 [.ref v, x1, x2] (.ref v :: st) σ ρ g τ Q := aw_lc m234 d234_50 rfl rfl rfl
theorem d234_51 : decode cX12_finds 51 = .ok (.getfield 188, 3) := by decide +kernel
theorem s234_51 {d : Nat} {st : List Value} {σ : am_I} {ρ : am_R} {g : am_J} {τ : am_T} {Q : am_Q} {x0 x1 x2 : Value} {a : Nat} (ht : τ.1 a = 12) : AW d 234 51 [x0, x1, x2] (.ref a :: st) σ ρ g τ Q = AW d 234 54 [x0, x1, x2] (va_rf (ρ a 68) :: st) σ ρ g τ Q := aw_gr m234 d234_51 rfl rfl rfl ht
theorem d234_54 : decode cX12_finds 54 = .ok (.iload_n 2, 1) := by decide +kernel
theorem s234_54 {d : Nat} {st : List Value} {σ : am_I} {ρ : am_R} {g : am_J} {τ : am_T} {Q : am_Q} {x0 x1 : Value} {v : Int32} : AW d 234 54 [x0, x1, .int v] (st) σ ρ g τ Q = AW d 234 55 [x0, x1, .int v] (.int v :: st) σ ρ g τ Q := aw_lc m234 d234_54 rfl rfl rfl
theorem d234_55 : decode cX12_finds 55 = .ok (.iaload, 1) := by decide +kernel
theorem s234_55 {d : Nat} {st : List Value} {σ : am_I} {ρ : am_R} {g : am_J} {τ : am_T} {Q : am_Q} {x0 x1 x2 : Value} {a : Nat} {j : Int32} (ht : τ.1 a = 15) (hj : am_inb j (τ.2.1 a) = true) : AW d 234 55 [x0, x1, x2] (.int j :: .ref a :: st) σ ρ g τ Q = AW d 234 56 [x0, x1, x2] (.int (σ a j.toNatClampNeg) :: st) σ ρ g τ Q := aw_ial m234 d234_55 rfl ht hj
theorem d234_56 : decode cX12_finds 56 = .ok (.invokevirtual 413, 3) := by decide +kernel
theorem s234_56 {d : Nat} {st : List Value} {σ : am_I} {ρ : am_R} {g : am_J} {τ : am_T} {Q : am_Q} {x0 x1 x2 : Value} {p0 : Nat} {p1 : Int32} (ht : τ.1 p0 = 12) (hs : st.length ≤ 4) : AW (d + 1) 234 56 [x0, x1, x2] (.int p1 :: .ref p0 :: st) σ ρ g τ Q = AW d 234 0 [.ref p0, .int p1, am_jk] [] σ ρ g τ (fun r9 σ ρ g τ => AW (d + 1) 234 59 [x0, x1, x2] (r9.toList ++ st) σ ρ g τ Q) := aw_cv m234 d234_56 rfl m234 rfl rfl (by decide) en234 ok234 rfl ht hs
theorem d234_59 : decode cX12_finds 59 = .ok (.ifCond .eq 12, 3) := by decide +kernel
theorem s234_59 {d : Nat} {st : List Value} {σ : am_I} {ρ : am_R} {g : am_J} {τ : am_T} {Q : am_Q} {x0 x1 x2 : Value} {v : Int32} : AW d 234 59 [x0, x1, x2] (.int v :: st) σ ρ g τ Q = if v = 0 then AW d 234 71 [x0, x1, x2] (st) σ ρ g τ Q else AW d 234 62 [x0, x1, x2] (st) σ ρ g τ Q := aw_br m234 d234_59 rfl rfl rfl
theorem d234_62 : decode cX12_finds 62 = .ok (.aload_n 0, 1) := by decide +kernel
theorem s234_62 {d : Nat} {st : List Value} {σ : am_I} {ρ : am_R} {g : am_J} {τ : am_T} {Q : am_Q} {x1 x2 : Value} {v : Nat} : AW d 234 62 [.ref v, x1, x2] (st) σ ρ g τ Q = AW d 234 63 [.ref v, x1, x2] (.ref v :: st) σ ρ g τ Q := aw_lc m234 d234_62 rfl rfl rfl
theorem d234_63 : decode cX12_finds 63 = .ok (.getfield 188, 3) := by decide +kernel
theorem s234_63 {d : Nat} {st : List Value} {σ : am_I} {ρ : am_R} {g : am_J} {τ : am_T} {Q : am_Q} {x0 x1 x2 : Value} {a : Nat} (ht : τ.1 a = 12) : AW d 234 63 [x0, x1, x2] (.ref a :: st) σ ρ g τ Q = AW d 234 66 [x0, x1, x2] (va_rf (ρ a 68) :: st) σ ρ g τ Q := aw_gr m234 d234_63 rfl rfl rfl ht
theorem d234_66 : decode cX12_finds 66 = .ok (.iload_n 2, 1) := by decide +kernel
theorem s234_66 {d : Nat} {st : List Value} {σ : am_I} {ρ : am_R} {g : am_J} {τ : am_T} {Q : am_Q} {x0 x1 : Value} {v : Int32} : AW d 234 66 [x0, x1, .int v] (st) σ ρ g τ Q = AW d 234 67 [x0, x1, .int v] (.int v :: st) σ ρ g τ Q := aw_lc m234 d234_66 rfl rfl rfl
theorem d234_67 : decode cX12_finds 67 = .ok (.iload_n 1, 1) := by decide +kernel
theorem s234_67 {d : Nat} {st : List Value} {σ : am_I} {ρ : am_R} {g : am_J} {τ : am_T} {Q : am_Q} {x0 x2 : Value} {v : Int32} : AW d 234 67 [x0, .int v, x2] (st) σ ρ g τ Q = AW d 234 68 [x0, .int v, x2] (.int v :: st) σ ρ g τ Q := aw_lc m234 d234_67 rfl rfl rfl
theorem d234_68 : decode cX12_finds 68 = .ok (.iastore, 1) := by decide +kernel
theorem s234_68 {d : Nat} {st : List Value} {σ : am_I} {ρ : am_R} {g : am_J} {τ : am_T} {Q : am_Q} {x0 x1 x2 : Value} {a : Nat} {j v : Int32} (ht : τ.1 a = 15) (ha : a < am_BG) (hj : am_inb j (τ.2.1 a) = true) : AW d 234 68 [x0, x1, x2] (.int v :: .int j :: .ref a :: st) σ ρ g τ Q = AW d 234 69 [x0, x1, x2] (st) (am_u σ a j.toNatClampNeg v) ρ g τ Q := aw_ias m234 d234_68 rfl ht ha hj
theorem d234_69 : decode cX12_finds 69 = .ok (.iconst 1, 1) := by decide +kernel
theorem s234_69 {d : Nat} {st : List Value} {σ : am_I} {ρ : am_R} {g : am_J} {τ : am_T} {Q : am_Q} {x0 x1 x2 : Value} : AW d 234 69 [x0, x1, x2] (st) σ ρ g τ Q = AW d 234 70 [x0, x1, x2] (.int 1 :: st) σ ρ g τ Q := aw_lc m234 d234_69 rfl rfl rfl
theorem d234_70 : decode cX12_finds 70 = .ok (.ireturn, 1) := by decide +kernel
theorem s234_70 {d : Nat} {σ : am_I} {ρ : am_R} {g : am_J} {τ : am_T} {Q : am_Q} {x0 x1 x2 : Value} {v : Int32} (hv : am_b01 v = true) : AW d 234 70 [x0, x1, x2] ([.int v]) σ ρ g τ Q = Q (some (.int v)) σ ρ g τ := aw_rz m234 d234_70 rfl hv
theorem d234_71 : decode cX12_finds 71 = .ok (.iinc 2 1, 3) := by decide +kernel
theorem s234_71 {d : Nat} {st : List Value} {σ : am_I} {ρ : am_R} {g : am_J} {τ : am_T} {Q : am_Q} {x0 : Value} {v : Int32} {u : Int32} : AW d 234 71 [x0, .int u, .int v] (st) σ ρ g τ Q = AW d 234 74 [x0, .int u, .int (v + 1)] (st) σ ρ g τ Q := aw_lc m234 d234_71 rfl rfl rfl
theorem d234_74 : decode cX12_finds 74 = .ok (.goto (-72), 3) := by decide +kernel
theorem s234_74 {d : Nat} {st : List Value} {σ : am_I} {ρ : am_R} {g : am_J} {τ : am_T} {Q : am_Q} {x0 x1 x2 : Value} : AW d 234 74 [x0, x1, x2] (st) σ ρ g τ Q = AW d 234 2 [x0, x1, x2] (st) σ ρ g τ Q := aw_lc m234 d234_74 rfl rfl rfl
theorem d234_77 : decode cX12_finds 77 = .ok (.iconst 0, 1) := by decide +kernel
theorem s234_77 {d : Nat} {st : List Value} {σ : am_I} {ρ : am_R} {g : am_J} {τ : am_T} {Q : am_Q} {x0 x1 x2 : Value} : AW d 234 77 [x0, x1, x2] (st) σ ρ g τ Q = AW d 234 78 [x0, x1, x2] (.int 0 :: st) σ ρ g τ Q := aw_lc m234 d234_77 rfl rfl rfl
theorem d234_78 : decode cX12_finds 78 = .ok (.ireturn, 1) := by decide +kernel
theorem s234_78 {d : Nat} {σ : am_I} {ρ : am_R} {g : am_J} {τ : am_T} {Q : am_Q} {x0 x1 x2 : Value} {v : Int32} (hv : am_b01 v = true) : AW d 234 78 [x0, x1, x2] ([.int v]) σ ρ g τ Q = Q (some (.int v)) σ ρ g τ := aw_rz m234 d234_78 rfl hv
theorem d235_0 : decode cX12_match 0 = .ok (.iconst 0, 1) := by decide +kernel
theorem s235_0 {d : Nat} {st : List Value} {σ : am_I} {ρ : am_R} {g : am_J} {τ : am_T} {Q : am_Q} {x0 x1 x2 : Value} : AW d 235 0 [x0, x1, x2] (st) σ ρ g τ Q = AW d 235 1 [x0, x1, x2] (.int 0 :: st) σ ρ g τ Q := aw_lc m235 d235_0 rfl rfl rfl
theorem d235_1 : decode cX12_match 1 = .ok (.istore_n 1, 1) := by decide +kernel
theorem s235_1r {d : Nat} {st : List Value} {σ : am_I} {ρ : am_R} {g : am_J} {τ : am_T} {Q : am_Q} {x1 x2 : Value} {v : Int32} {u : Nat} : AW d 235 1 [.ref u, x1, x2] (.int v :: st) σ ρ g τ Q = AW d 235 2 [.ref u, .int v, x2] (st) σ ρ g τ Q := aw_lc m235 d235_1 rfl rfl rfl
theorem d235_2 : decode cX12_match 2 = .ok (.iload_n 1, 1) := by decide +kernel
theorem s235_2 {d : Nat} {st : List Value} {σ : am_I} {ρ : am_R} {g : am_J} {τ : am_T} {Q : am_Q} {x0 x2 : Value} {v : Int32} : AW d 235 2 [x0, .int v, x2] (st) σ ρ g τ Q = AW d 235 3 [x0, .int v, x2] (.int v :: st) σ ρ g τ Q := aw_lc m235 d235_2 rfl rfl rfl
theorem d235_3 : decode cX12_match 3 = .ok (.aload_n 0, 1) := by decide +kernel
theorem s235_3 {d : Nat} {st : List Value} {σ : am_I} {ρ : am_R} {g : am_J} {τ : am_T} {Q : am_Q} {x1 x2 : Value} {v : Nat} : AW d 235 3 [.ref v, x1, x2] (st) σ ρ g τ Q = AW d 235 4 [.ref v, x1, x2] (.ref v :: st) σ ρ g τ Q := aw_lc m235 d235_3 rfl rfl rfl
theorem d235_4 : decode cX12_match 4 = .ok (.getfield 9, 3) := by decide +kernel
theorem s235_4 {d : Nat} {st : List Value} {σ : am_I} {ρ : am_R} {g : am_J} {τ : am_T} {Q : am_Q} {x0 x1 x2 : Value} {a : Nat} (ht : τ.1 a = 12) : AW d 235 4 [x0, x1, x2] (.ref a :: st) σ ρ g τ Q = AW d 235 7 [x0, x1, x2] (va_rf (ρ a 0) :: st) σ ρ g τ Q := aw_gr m235 d235_4 rfl rfl rfl ht
theorem d235_7 : decode cX12_match 7 = .ok (.iconst 5, 1) := by decide +kernel
theorem s235_7 {d : Nat} {st : List Value} {σ : am_I} {ρ : am_R} {g : am_J} {τ : am_T} {Q : am_Q} {x0 x1 x2 : Value} : AW d 235 7 [x0, x1, x2] (st) σ ρ g τ Q = AW d 235 8 [x0, x1, x2] (.int 5 :: st) σ ρ g τ Q := aw_lc m235 d235_7 rfl rfl rfl
theorem d235_8 : decode cX12_match 8 = .ok (.iaload, 1) := by decide +kernel
theorem s235_8 {d : Nat} {st : List Value} {σ : am_I} {ρ : am_R} {g : am_J} {τ : am_T} {Q : am_Q} {x0 x1 x2 : Value} {a : Nat} {j : Int32} (ht : τ.1 a = 15) (hj : am_inb j (τ.2.1 a) = true) : AW d 235 8 [x0, x1, x2] (.int j :: .ref a :: st) σ ρ g τ Q = AW d 235 9 [x0, x1, x2] (.int (σ a j.toNatClampNeg) :: st) σ ρ g τ Q := aw_ial m235 d235_8 rfl ht hj
theorem d235_9 : decode cX12_match 9 = .ok (.if_icmp .ge 16, 3) := by decide +kernel
theorem s235_9 {d : Nat} {st : List Value} {σ : am_I} {ρ : am_R} {g : am_J} {τ : am_T} {Q : am_Q} {x0 x1 x2 : Value} {v w : Int32} : AW d 235 9 [x0, x1, x2] (.int w :: .int v :: st) σ ρ g τ Q = if w ≤ v then AW d 235 25 [x0, x1, x2] (st) σ ρ g τ Q else AW d 235 12 [x0, x1, x2] (st) σ ρ g τ Q := aw_br m235 d235_9 rfl rfl rfl
theorem d235_12 : decode cX12_match 12 = .ok (.aload_n 0, 1) := by decide +kernel
theorem s235_12 {d : Nat} {st : List Value} {σ : am_I} {ρ : am_R} {g : am_J} {τ : am_T} {Q : am_Q} {x1 x2 : Value} {v : Nat} : AW d 235 12 [.ref v, x1, x2] (st) σ ρ g τ Q = AW d 235 13 [.ref v, x1, x2] (.ref v :: st) σ ρ g τ Q := aw_lc m235 d235_12 rfl rfl rfl
theorem d235_13 : decode cX12_match 13 = .ok (.getfield 188, 3) := by decide +kernel
theorem s235_13 {d : Nat} {st : List Value} {σ : am_I} {ρ : am_R} {g : am_J} {τ : am_T} {Q : am_Q} {x0 x1 x2 : Value} {a : Nat} (ht : τ.1 a = 12) : AW d 235 13 [x0, x1, x2] (.ref a :: st) σ ρ g τ Q = AW d 235 16 [x0, x1, x2] (va_rf (ρ a 68) :: st) σ ρ g τ Q := aw_gr m235 d235_13 rfl rfl rfl ht
theorem d235_16 : decode cX12_match 16 = .ok (.iload_n 1, 1) := by decide +kernel
theorem s235_16 {d : Nat} {st : List Value} {σ : am_I} {ρ : am_R} {g : am_J} {τ : am_T} {Q : am_Q} {x0 x2 : Value} {v : Int32} : AW d 235 16 [x0, .int v, x2] (st) σ ρ g τ Q = AW d 235 17 [x0, .int v, x2] (.int v :: st) σ ρ g τ Q := aw_lc m235 d235_16 rfl rfl rfl
theorem d235_17 : decode cX12_match 17 = .ok (.iconst (-1), 1) := by decide +kernel
theorem s235_17 {d : Nat} {st : List Value} {σ : am_I} {ρ : am_R} {g : am_J} {τ : am_T} {Q : am_Q} {x0 x1 x2 : Value} : AW d 235 17 [x0, x1, x2] (st) σ ρ g τ Q = AW d 235 18 [x0, x1, x2] (.int (-1) :: st) σ ρ g τ Q := aw_lc m235 d235_17 rfl rfl rfl
theorem d235_18 : decode cX12_match 18 = .ok (.iastore, 1) := by decide +kernel
theorem s235_18 {d : Nat} {st : List Value} {σ : am_I} {ρ : am_R} {g : am_J} {τ : am_T} {Q : am_Q} {x0 x1 x2 : Value} {a : Nat} {j v : Int32} (ht : τ.1 a = 15) (ha : a < am_BG) (hj : am_inb j (τ.2.1 a) = true) : AW d 235 18 [x0, x1, x2] (.int v :: .int j :: .ref a :: st) σ ρ g τ Q = AW d 235 19 [x0, x1, x2] (st) (am_u σ a j.toNatClampNeg v) ρ g τ Q := aw_ias m235 d235_18 rfl ht ha hj
theorem d235_19 : decode cX12_match 19 = .ok (.iinc 1 1, 3) := by decide +kernel
theorem s235_19r {d : Nat} {st : List Value} {σ : am_I} {ρ : am_R} {g : am_J} {τ : am_T} {Q : am_Q} {x2 : Value} {v : Int32} {u : Nat} : AW d 235 19 [.ref u, .int v, x2] (st) σ ρ g τ Q = AW d 235 22 [.ref u, .int (v + 1), x2] (st) σ ρ g τ Q := aw_lc m235 d235_19 rfl rfl rfl
theorem d235_22 : decode cX12_match 22 = .ok (.goto (-20), 3) := by decide +kernel
theorem s235_22 {d : Nat} {st : List Value} {σ : am_I} {ρ : am_R} {g : am_J} {τ : am_T} {Q : am_Q} {x0 x1 x2 : Value} : AW d 235 22 [x0, x1, x2] (st) σ ρ g τ Q = AW d 235 2 [x0, x1, x2] (st) σ ρ g τ Q := aw_lc m235 d235_22 rfl rfl rfl
theorem d235_25 : decode cX12_match 25 = .ok (.iconst 0, 1) := by decide +kernel
theorem s235_25 {d : Nat} {st : List Value} {σ : am_I} {ρ : am_R} {g : am_J} {τ : am_T} {Q : am_Q} {x0 x1 x2 : Value} : AW d 235 25 [x0, x1, x2] (st) σ ρ g τ Q = AW d 235 26 [x0, x1, x2] (.int 0 :: st) σ ρ g τ Q := aw_lc m235 d235_25 rfl rfl rfl
theorem d235_26 : decode cX12_match 26 = .ok (.istore_n 1, 1) := by decide +kernel
theorem s235_26r {d : Nat} {st : List Value} {σ : am_I} {ρ : am_R} {g : am_J} {τ : am_T} {Q : am_Q} {x1 x2 : Value} {v : Int32} {u : Nat} : AW d 235 26 [.ref u, x1, x2] (.int v :: st) σ ρ g τ Q = AW d 235 27 [.ref u, .int v, x2] (st) σ ρ g τ Q := aw_lc m235 d235_26 rfl rfl rfl
theorem d235_27 : decode cX12_match 27 = .ok (.iload_n 1, 1) := by decide +kernel
theorem s235_27 {d : Nat} {st : List Value} {σ : am_I} {ρ : am_R} {g : am_J} {τ : am_T} {Q : am_Q} {x0 x2 : Value} {v : Int32} : AW d 235 27 [x0, .int v, x2] (st) σ ρ g τ Q = AW d 235 28 [x0, .int v, x2] (.int v :: st) σ ρ g τ Q := aw_lc m235 d235_27 rfl rfl rfl
theorem d235_28 : decode cX12_match 28 = .ok (.aload_n 0, 1) := by decide +kernel
theorem s235_28 {d : Nat} {st : List Value} {σ : am_I} {ρ : am_R} {g : am_J} {τ : am_T} {Q : am_Q} {x1 x2 : Value} {v : Nat} : AW d 235 28 [.ref v, x1, x2] (st) σ ρ g τ Q = AW d 235 29 [.ref v, x1, x2] (.ref v :: st) σ ρ g τ Q := aw_lc m235 d235_28 rfl rfl rfl
theorem d235_29 : decode cX12_match 29 = .ok (.getfield 9, 3) := by decide +kernel
theorem s235_29 {d : Nat} {st : List Value} {σ : am_I} {ρ : am_R} {g : am_J} {τ : am_T} {Q : am_Q} {x0 x1 x2 : Value} {a : Nat} (ht : τ.1 a = 12) : AW d 235 29 [x0, x1, x2] (.ref a :: st) σ ρ g τ Q = AW d 235 32 [x0, x1, x2] (va_rf (ρ a 0) :: st) σ ρ g τ Q := aw_gr m235 d235_29 rfl rfl rfl ht
theorem d235_32 : decode cX12_match 32 = .ok (.iconst 5, 1) := by decide +kernel
theorem s235_32 {d : Nat} {st : List Value} {σ : am_I} {ρ : am_R} {g : am_J} {τ : am_T} {Q : am_Q} {x0 x1 x2 : Value} : AW d 235 32 [x0, x1, x2] (st) σ ρ g τ Q = AW d 235 33 [x0, x1, x2] (.int 5 :: st) σ ρ g τ Q := aw_lc m235 d235_32 rfl rfl rfl
theorem d235_33 : decode cX12_match 33 = .ok (.iaload, 1) := by decide +kernel
theorem s235_33 {d : Nat} {st : List Value} {σ : am_I} {ρ : am_R} {g : am_J} {τ : am_T} {Q : am_Q} {x0 x1 x2 : Value} {a : Nat} {j : Int32} (ht : τ.1 a = 15) (hj : am_inb j (τ.2.1 a) = true) : AW d 235 33 [x0, x1, x2] (.int j :: .ref a :: st) σ ρ g τ Q = AW d 235 34 [x0, x1, x2] (.int (σ a j.toNatClampNeg) :: st) σ ρ g τ Q := aw_ial m235 d235_33 rfl ht hj
theorem d235_34 : decode cX12_match 34 = .ok (.if_icmp .ge 52, 3) := by decide +kernel
theorem s235_34 {d : Nat} {st : List Value} {σ : am_I} {ρ : am_R} {g : am_J} {τ : am_T} {Q : am_Q} {x0 x1 x2 : Value} {v w : Int32} : AW d 235 34 [x0, x1, x2] (.int w :: .int v :: st) σ ρ g τ Q = if w ≤ v then AW d 235 86 [x0, x1, x2] (st) σ ρ g τ Q else AW d 235 37 [x0, x1, x2] (st) σ ρ g τ Q := aw_br m235 d235_34 rfl rfl rfl
theorem d235_37 : decode cX12_match 37 = .ok (.aload_n 0, 1) := by decide +kernel
theorem s235_37 {d : Nat} {st : List Value} {σ : am_I} {ρ : am_R} {g : am_J} {τ : am_T} {Q : am_Q} {x1 x2 : Value} {v : Nat} : AW d 235 37 [.ref v, x1, x2] (st) σ ρ g τ Q = AW d 235 38 [.ref v, x1, x2] (.ref v :: st) σ ρ g τ Q := aw_lc m235 d235_37 rfl rfl rfl
theorem d235_38 : decode cX12_match 38 = .ok (.getfield 100, 3) := by decide +kernel
theorem s235_38 {d : Nat} {st : List Value} {σ : am_I} {ρ : am_R} {g : am_J} {τ : am_T} {Q : am_Q} {x0 x1 x2 : Value} {a : Nat} (ht : τ.1 a = 12) : AW d 235 38 [x0, x1, x2] (.ref a :: st) σ ρ g τ Q = AW d 235 41 [x0, x1, x2] (va_rf (ρ a 30) :: st) σ ρ g τ Q := aw_gr m235 d235_38 rfl rfl rfl ht
theorem d235_41 : decode cX12_match 41 = .ok (.iload_n 1, 1) := by decide +kernel
theorem s235_41 {d : Nat} {st : List Value} {σ : am_I} {ρ : am_R} {g : am_J} {τ : am_T} {Q : am_Q} {x0 x2 : Value} {v : Int32} : AW d 235 41 [x0, .int v, x2] (st) σ ρ g τ Q = AW d 235 42 [x0, .int v, x2] (.int v :: st) σ ρ g τ Q := aw_lc m235 d235_41 rfl rfl rfl
theorem d235_42 : decode cX12_match 42 = .ok (.iaload, 1) := by decide +kernel
theorem s235_42 {d : Nat} {st : List Value} {σ : am_I} {ρ : am_R} {g : am_J} {τ : am_T} {Q : am_Q} {x0 x1 x2 : Value} {a : Nat} {j : Int32} (ht : τ.1 a = 15) (hj : am_inb j (τ.2.1 a) = true) : AW d 235 42 [x0, x1, x2] (.int j :: .ref a :: st) σ ρ g τ Q = AW d 235 43 [x0, x1, x2] (.int (σ a j.toNatClampNeg) :: st) σ ρ g τ Q := aw_ial m235 d235_42 rfl ht hj
theorem d235_43 : decode cX12_match 43 = .ok (.ifCond .eq 6, 3) := by decide +kernel
theorem s235_43 {d : Nat} {st : List Value} {σ : am_I} {ρ : am_R} {g : am_J} {τ : am_T} {Q : am_Q} {x0 x1 x2 : Value} {v : Int32} : AW d 235 43 [x0, x1, x2] (.int v :: st) σ ρ g τ Q = if v = 0 then AW d 235 49 [x0, x1, x2] (st) σ ρ g τ Q else AW d 235 46 [x0, x1, x2] (st) σ ρ g τ Q := aw_br m235 d235_43 rfl rfl rfl
theorem d235_46 : decode cX12_match 46 = .ok (.goto 34, 3) := by decide +kernel
theorem s235_46 {d : Nat} {st : List Value} {σ : am_I} {ρ : am_R} {g : am_J} {τ : am_T} {Q : am_Q} {x0 x1 x2 : Value} : AW d 235 46 [x0, x1, x2] (st) σ ρ g τ Q = AW d 235 80 [x0, x1, x2] (st) σ ρ g τ Q := aw_lc m235 d235_46 rfl rfl rfl
theorem d235_49 : decode cX12_match 49 = .ok (.iconst 0, 1) := by decide +kernel
theorem s235_49 {d : Nat} {st : List Value} {σ : am_I} {ρ : am_R} {g : am_J} {τ : am_T} {Q : am_Q} {x0 x1 x2 : Value} : AW d 235 49 [x0, x1, x2] (st) σ ρ g τ Q = AW d 235 50 [x0, x1, x2] (.int 0 :: st) σ ρ g τ Q := aw_lc m235 d235_49 rfl rfl rfl
theorem d235_50 : decode cX12_match 50 = .ok (.istore_n 2, 1) := by decide +kernel
theorem s235_50 {d : Nat} {st : List Value} {σ : am_I} {ρ : am_R} {g : am_J} {τ : am_T} {Q : am_Q} {x0 x2 : Value} {v : Int32} {u : Int32} : AW d 235 50 [x0, .int u, x2] (.int v :: st) σ ρ g τ Q = AW d 235 51 [x0, .int u, .int v] (st) σ ρ g τ Q := aw_lc m235 d235_50 rfl rfl rfl
theorem d235_51 : decode cX12_match 51 = .ok (.iload_n 2, 1) := by decide +kernel
theorem s235_51 {d : Nat} {st : List Value} {σ : am_I} {ρ : am_R} {g : am_J} {τ : am_T} {Q : am_Q} {x0 x1 : Value} {v : Int32} : AW d 235 51 [x0, x1, .int v] (st) σ ρ g τ Q = AW d 235 52 [x0, x1, .int v] (.int v :: st) σ ρ g τ Q := aw_lc m235 d235_51 rfl rfl rfl
theorem d235_52 : decode cX12_match 52 = .ok (.aload_n 0, 1) := by decide +kernel
theorem s235_52 {d : Nat} {st : List Value} {σ : am_I} {ρ : am_R} {g : am_J} {τ : am_T} {Q : am_Q} {x1 x2 : Value} {v : Nat} : AW d 235 52 [.ref v, x1, x2] (st) σ ρ g τ Q = AW d 235 53 [.ref v, x1, x2] (.ref v :: st) σ ρ g τ Q := aw_lc m235 d235_52 rfl rfl rfl
theorem d235_53 : decode cX12_match 53 = .ok (.getfield 9, 3) := by decide +kernel
theorem s235_53 {d : Nat} {st : List Value} {σ : am_I} {ρ : am_R} {g : am_J} {τ : am_T} {Q : am_Q} {x0 x1 x2 : Value} {a : Nat} (ht : τ.1 a = 12) : AW d 235 53 [x0, x1, x2] (.ref a :: st) σ ρ g τ Q = AW d 235 56 [x0, x1, x2] (va_rf (ρ a 0) :: st) σ ρ g τ Q := aw_gr m235 d235_53 rfl rfl rfl ht
theorem d235_56 : decode cX12_match 56 = .ok (.iconst 5, 1) := by decide +kernel
theorem s235_56 {d : Nat} {st : List Value} {σ : am_I} {ρ : am_R} {g : am_J} {τ : am_T} {Q : am_Q} {x0 x1 x2 : Value} : AW d 235 56 [x0, x1, x2] (st) σ ρ g τ Q = AW d 235 57 [x0, x1, x2] (.int 5 :: st) σ ρ g τ Q := aw_lc m235 d235_56 rfl rfl rfl
theorem d235_57 : decode cX12_match 57 = .ok (.iaload, 1) := by decide +kernel
theorem s235_57 {d : Nat} {st : List Value} {σ : am_I} {ρ : am_R} {g : am_J} {τ : am_T} {Q : am_Q} {x0 x1 x2 : Value} {a : Nat} {j : Int32} (ht : τ.1 a = 15) (hj : am_inb j (τ.2.1 a) = true) : AW d 235 57 [x0, x1, x2] (.int j :: .ref a :: st) σ ρ g τ Q = AW d 235 58 [x0, x1, x2] (.int (σ a j.toNatClampNeg) :: st) σ ρ g τ Q := aw_ial m235 d235_57 rfl ht hj
theorem d235_58 : decode cX12_match 58 = .ok (.if_icmp .ge 16, 3) := by decide +kernel
theorem s235_58 {d : Nat} {st : List Value} {σ : am_I} {ρ : am_R} {g : am_J} {τ : am_T} {Q : am_Q} {x0 x1 x2 : Value} {v w : Int32} : AW d 235 58 [x0, x1, x2] (.int w :: .int v :: st) σ ρ g τ Q = if w ≤ v then AW d 235 74 [x0, x1, x2] (st) σ ρ g τ Q else AW d 235 61 [x0, x1, x2] (st) σ ρ g τ Q := aw_br m235 d235_58 rfl rfl rfl
theorem d235_61 : decode cX12_match 61 = .ok (.aload_n 0, 1) := by decide +kernel
theorem s235_61 {d : Nat} {st : List Value} {σ : am_I} {ρ : am_R} {g : am_J} {τ : am_T} {Q : am_Q} {x1 x2 : Value} {v : Nat} : AW d 235 61 [.ref v, x1, x2] (st) σ ρ g τ Q = AW d 235 62 [.ref v, x1, x2] (.ref v :: st) σ ρ g τ Q := aw_lc m235 d235_61 rfl rfl rfl
theorem d235_62 : decode cX12_match 62 = .ok (.getfield 191, 3) := by decide +kernel
theorem s235_62 {d : Nat} {st : List Value} {σ : am_I} {ρ : am_R} {g : am_J} {τ : am_T} {Q : am_Q} {x0 x1 x2 : Value} {a : Nat} (ht : τ.1 a = 12) : AW d 235 62 [x0, x1, x2] (.ref a :: st) σ ρ g τ Q = AW d 235 65 [x0, x1, x2] (va_rf (ρ a 69) :: st) σ ρ g τ Q := aw_gr m235 d235_62 rfl rfl rfl ht
theorem d235_65 : decode cX12_match 65 = .ok (.iload_n 2, 1) := by decide +kernel
theorem s235_65 {d : Nat} {st : List Value} {σ : am_I} {ρ : am_R} {g : am_J} {τ : am_T} {Q : am_Q} {x0 x1 : Value} {v : Int32} : AW d 235 65 [x0, x1, .int v] (st) σ ρ g τ Q = AW d 235 66 [x0, x1, .int v] (.int v :: st) σ ρ g τ Q := aw_lc m235 d235_65 rfl rfl rfl
theorem d235_66 : decode cX12_match 66 = .ok (.iconst 0, 1) := by decide +kernel
theorem s235_66 {d : Nat} {st : List Value} {σ : am_I} {ρ : am_R} {g : am_J} {τ : am_T} {Q : am_Q} {x0 x1 x2 : Value} : AW d 235 66 [x0, x1, x2] (st) σ ρ g τ Q = AW d 235 67 [x0, x1, x2] (.int 0 :: st) σ ρ g τ Q := aw_lc m235 d235_66 rfl rfl rfl
theorem d235_67 : decode cX12_match 67 = .ok (.bastore, 1) := by decide +kernel
theorem s235_67 {d : Nat} {st : List Value} {σ : am_I} {ρ : am_R} {g : am_J} {τ : am_T} {Q : am_Q} {x0 x1 x2 : Value} {a : Nat} {j v : Int32} (ht : τ.1 a = 17) (ha : a < am_BG) (hj : am_inb j (τ.2.1 a) = true) (hv : am_b01 v = true) : AW d 235 67 [x0, x1, x2] (.int v :: .int j :: .ref a :: st) σ ρ g τ Q = AW d 235 68 [x0, x1, x2] (st) (am_u σ a j.toNatClampNeg v) ρ g τ Q := aw_zas m235 d235_67 rfl ht ha hj hv
theorem d235_68 : decode cX12_match 68 = .ok (.iinc 2 1, 3) := by decide +kernel
theorem s235_68 {d : Nat} {st : List Value} {σ : am_I} {ρ : am_R} {g : am_J} {τ : am_T} {Q : am_Q} {x0 : Value} {v : Int32} {u : Int32} : AW d 235 68 [x0, .int u, .int v] (st) σ ρ g τ Q = AW d 235 71 [x0, .int u, .int (v + 1)] (st) σ ρ g τ Q := aw_lc m235 d235_68 rfl rfl rfl
theorem d235_71 : decode cX12_match 71 = .ok (.goto (-20), 3) := by decide +kernel
theorem s235_71 {d : Nat} {st : List Value} {σ : am_I} {ρ : am_R} {g : am_J} {τ : am_T} {Q : am_Q} {x0 x1 x2 : Value} : AW d 235 71 [x0, x1, x2] (st) σ ρ g τ Q = AW d 235 51 [x0, x1, x2] (st) σ ρ g τ Q := aw_lc m235 d235_71 rfl rfl rfl
theorem d235_74 : decode cX12_match 74 = .ok (.aload_n 0, 1) := by decide +kernel
theorem s235_74 {d : Nat} {st : List Value} {σ : am_I} {ρ : am_R} {g : am_J} {τ : am_T} {Q : am_Q} {x1 x2 : Value} {v : Nat} : AW d 235 74 [.ref v, x1, x2] (st) σ ρ g τ Q = AW d 235 75 [.ref v, x1, x2] (.ref v :: st) σ ρ g τ Q := aw_lc m235 d235_74 rfl rfl rfl
theorem d235_75 : decode cX12_match 75 = .ok (.iload_n 1, 1) := by decide +kernel
theorem s235_75 {d : Nat} {st : List Value} {σ : am_I} {ρ : am_R} {g : am_J} {τ : am_T} {Q : am_Q} {x0 x2 : Value} {v : Int32} : AW d 235 75 [x0, .int v, x2] (st) σ ρ g τ Q = AW d 235 76 [x0, .int v, x2] (.int v :: st) σ ρ g τ Q := aw_lc m235 d235_75 rfl rfl rfl
theorem d235_76 : decode cX12_match 76 = .ok (.invokevirtual 413, 3) := by decide +kernel
theorem s235_76 {d : Nat} {st : List Value} {σ : am_I} {ρ : am_R} {g : am_J} {τ : am_T} {Q : am_Q} {x0 x1 x2 : Value} {p0 : Nat} {p1 : Int32} (ht : τ.1 p0 = 12) (hs : st.length ≤ 4) : AW (d + 1) 235 76 [x0, x1, x2] (.int p1 :: .ref p0 :: st) σ ρ g τ Q = AW d 234 0 [.ref p0, .int p1, am_jk] [] σ ρ g τ (fun r9 σ ρ g τ => AW (d + 1) 235 79 [x0, x1, x2] (r9.toList ++ st) σ ρ g τ Q) := aw_cv m235 d235_76 rfl m234 rfl rfl (by decide) en234 ok234 rfl ht hs
theorem d235_79 : decode cX12_match 79 = .ok (.istore_n 2, 1) := by decide +kernel
theorem s235_79 {d : Nat} {st : List Value} {σ : am_I} {ρ : am_R} {g : am_J} {τ : am_T} {Q : am_Q} {x0 x2 : Value} {v : Int32} {u : Int32} : AW d 235 79 [x0, .int u, x2] (.int v :: st) σ ρ g τ Q = AW d 235 80 [x0, .int u, .int v] (st) σ ρ g τ Q := aw_lc m235 d235_79 rfl rfl rfl
theorem d235_80 : decode cX12_match 80 = .ok (.iinc 1 1, 3) := by decide +kernel
theorem s235_80r {d : Nat} {st : List Value} {σ : am_I} {ρ : am_R} {g : am_J} {τ : am_T} {Q : am_Q} {x2 : Value} {v : Int32} {u : Nat} : AW d 235 80 [.ref u, .int v, x2] (st) σ ρ g τ Q = AW d 235 83 [.ref u, .int (v + 1), x2] (st) σ ρ g τ Q := aw_lc m235 d235_80 rfl rfl rfl
theorem d235_83 : decode cX12_match 83 = .ok (.goto (-56), 3) := by decide +kernel
theorem s235_83 {d : Nat} {st : List Value} {σ : am_I} {ρ : am_R} {g : am_J} {τ : am_T} {Q : am_Q} {x0 x1 x2 : Value} : AW d 235 83 [x0, x1, x2] (st) σ ρ g τ Q = AW d 235 27 [x0, x1, x2] (st) σ ρ g τ Q := aw_lc m235 d235_83 rfl rfl rfl
theorem d235_86 : decode cX12_match 86 = .ok (.return_, 1) := by decide +kernel
theorem s235_86 {d : Nat} {σ : am_I} {ρ : am_R} {g : am_J} {τ : am_T} {Q : am_Q} {x0 x1 x2 : Value} : AW d 235 86 [x0, x1, x2] ([]) σ ρ g τ Q = Q none σ ρ g τ := aw_rv m235 d235_86 rfl
theorem d236_0 : decode cX12_bills 0 = .ok (.iload_n 1, 1) := by decide +kernel
theorem s236_0 {d : Nat} {st : List Value} {σ : am_I} {ρ : am_R} {g : am_J} {τ : am_T} {Q : am_Q} {x0 x2 x3 : Value} {v : Int32} : AW d 236 0 [x0, .int v, x2, x3] (st) σ ρ g τ Q = AW d 236 1 [x0, .int v, x2, x3] (.int v :: st) σ ρ g τ Q := aw_lc m236 d236_0 rfl rfl rfl
theorem d236_1 : decode cX12_bills 1 = .ok (.bipush (-3), 2) := by decide +kernel
theorem s236_1 {d : Nat} {st : List Value} {σ : am_I} {ρ : am_R} {g : am_J} {τ : am_T} {Q : am_Q} {x0 x1 x2 x3 : Value} : AW d 236 1 [x0, x1, x2, x3] (st) σ ρ g τ Q = AW d 236 3 [x0, x1, x2, x3] (.int (-3) :: st) σ ρ g τ Q := aw_lc m236 d236_1 rfl rfl rfl
theorem d236_3 : decode cX12_bills 3 = .ok (.if_icmp .lt 13, 3) := by decide +kernel
theorem s236_3 {d : Nat} {st : List Value} {σ : am_I} {ρ : am_R} {g : am_J} {τ : am_T} {Q : am_Q} {x0 x1 x2 x3 : Value} {v w : Int32} : AW d 236 3 [x0, x1, x2, x3] (.int w :: .int v :: st) σ ρ g τ Q = if v < w then AW d 236 16 [x0, x1, x2, x3] (st) σ ρ g τ Q else AW d 236 6 [x0, x1, x2, x3] (st) σ ρ g τ Q := aw_br m236 d236_3 rfl rfl rfl
theorem d236_6 : decode cX12_bills 6 = .ok (.iload_n 1, 1) := by decide +kernel
theorem s236_6 {d : Nat} {st : List Value} {σ : am_I} {ρ : am_R} {g : am_J} {τ : am_T} {Q : am_Q} {x0 x2 x3 : Value} {v : Int32} : AW d 236 6 [x0, .int v, x2, x3] (st) σ ρ g τ Q = AW d 236 7 [x0, .int v, x2, x3] (.int v :: st) σ ρ g τ Q := aw_lc m236 d236_6 rfl rfl rfl
theorem d236_7 : decode cX12_bills 7 = .ok (.aload_n 0, 1) := by decide +kernel
theorem s236_7 {d : Nat} {st : List Value} {σ : am_I} {ρ : am_R} {g : am_J} {τ : am_T} {Q : am_Q} {x1 x2 x3 : Value} {v : Nat} : AW d 236 7 [.ref v, x1, x2, x3] (st) σ ρ g τ Q = AW d 236 8 [.ref v, x1, x2, x3] (.ref v :: st) σ ρ g τ Q := aw_lc m236 d236_7 rfl rfl rfl
theorem d236_8 : decode cX12_bills 8 = .ok (.getfield 9, 3) := by decide +kernel
theorem s236_8 {d : Nat} {st : List Value} {σ : am_I} {ρ : am_R} {g : am_J} {τ : am_T} {Q : am_Q} {x0 x1 x2 x3 : Value} {a : Nat} (ht : τ.1 a = 12) : AW d 236 8 [x0, x1, x2, x3] (.ref a :: st) σ ρ g τ Q = AW d 236 11 [x0, x1, x2, x3] (va_rf (ρ a 0) :: st) σ ρ g τ Q := aw_gr m236 d236_8 rfl rfl rfl ht
theorem d236_11 : decode cX12_bills 11 = .ok (.iconst 5, 1) := by decide +kernel
theorem s236_11 {d : Nat} {st : List Value} {σ : am_I} {ρ : am_R} {g : am_J} {τ : am_T} {Q : am_Q} {x0 x1 x2 x3 : Value} : AW d 236 11 [x0, x1, x2, x3] (st) σ ρ g τ Q = AW d 236 12 [x0, x1, x2, x3] (.int 5 :: st) σ ρ g τ Q := aw_lc m236 d236_11 rfl rfl rfl
theorem d236_12 : decode cX12_bills 12 = .ok (.iaload, 1) := by decide +kernel
theorem s236_12 {d : Nat} {st : List Value} {σ : am_I} {ρ : am_R} {g : am_J} {τ : am_T} {Q : am_Q} {x0 x1 x2 x3 : Value} {a : Nat} {j : Int32} (ht : τ.1 a = 15) (hj : am_inb j (τ.2.1 a) = true) : AW d 236 12 [x0, x1, x2, x3] (.int j :: .ref a :: st) σ ρ g τ Q = AW d 236 13 [x0, x1, x2, x3] (.int (σ a j.toNatClampNeg) :: st) σ ρ g τ Q := aw_ial m236 d236_12 rfl ht hj
theorem d236_13 : decode cX12_bills 13 = .ok (.if_icmp .lt 5, 3) := by decide +kernel
theorem s236_13 {d : Nat} {st : List Value} {σ : am_I} {ρ : am_R} {g : am_J} {τ : am_T} {Q : am_Q} {x0 x1 x2 x3 : Value} {v w : Int32} : AW d 236 13 [x0, x1, x2, x3] (.int w :: .int v :: st) σ ρ g τ Q = if v < w then AW d 236 18 [x0, x1, x2, x3] (st) σ ρ g τ Q else AW d 236 16 [x0, x1, x2, x3] (st) σ ρ g τ Q := aw_br m236 d236_13 rfl rfl rfl
theorem d236_16 : decode cX12_bills 16 = .ok (.iconst (-1), 1) := by decide +kernel
theorem s236_16 {d : Nat} {st : List Value} {σ : am_I} {ρ : am_R} {g : am_J} {τ : am_T} {Q : am_Q} {x0 x1 x2 x3 : Value} : AW d 236 16 [x0, x1, x2, x3] (st) σ ρ g τ Q = AW d 236 17 [x0, x1, x2, x3] (.int (-1) :: st) σ ρ g τ Q := aw_lc m236 d236_16 rfl rfl rfl
theorem d236_17 : decode cX12_bills 17 = .ok (.ireturn, 1) := by decide +kernel
theorem s236_17 {d : Nat} {σ : am_I} {ρ : am_R} {g : am_J} {τ : am_T} {Q : am_Q} {x0 x1 x2 x3 : Value} {v : Int32} : AW d 236 17 [x0, x1, x2, x3] ([.int v]) σ ρ g τ Q = Q (some (.int v)) σ ρ g τ := aw_ri m236 d236_17 rfl
theorem d236_18 : decode cX12_bills 18 = .ok (.iload_n 1, 1) := by decide +kernel
theorem s236_18 {d : Nat} {st : List Value} {σ : am_I} {ρ : am_R} {g : am_J} {τ : am_T} {Q : am_Q} {x0 x2 x3 : Value} {v : Int32} : AW d 236 18 [x0, .int v, x2, x3] (st) σ ρ g τ Q = AW d 236 19 [x0, .int v, x2, x3] (.int v :: st) σ ρ g τ Q := aw_lc m236 d236_18 rfl rfl rfl
theorem d236_19 : decode cX12_bills 19 = .ok (.ifCond .lt 9, 3) := by decide +kernel
theorem s236_19 {d : Nat} {st : List Value} {σ : am_I} {ρ : am_R} {g : am_J} {τ : am_T} {Q : am_Q} {x0 x1 x2 x3 : Value} {v : Int32} : AW d 236 19 [x0, x1, x2, x3] (.int v :: st) σ ρ g τ Q = if v < 0 then AW d 236 28 [x0, x1, x2, x3] (st) σ ρ g τ Q else AW d 236 22 [x0, x1, x2, x3] (st) σ ρ g τ Q := aw_br m236 d236_19 rfl rfl rfl
theorem d236_22 : decode cX12_bills 22 = .ok (.aload_n 0, 1) := by decide +kernel
theorem s236_22 {d : Nat} {st : List Value} {σ : am_I} {ρ : am_R} {g : am_J} {τ : am_T} {Q : am_Q} {x1 x2 x3 : Value} {v : Nat} : AW d 236 22 [.ref v, x1, x2, x3] (st) σ ρ g τ Q = AW d 236 23 [.ref v, x1, x2, x3] (.ref v :: st) σ ρ g τ Q := aw_lc m236 d236_22 rfl rfl rfl
theorem d236_23 : decode cX12_bills 23 = .ok (.iload_n 1, 1) := by decide +kernel
theorem s236_23 {d : Nat} {st : List Value} {σ : am_I} {ρ : am_R} {g : am_J} {τ : am_T} {Q : am_Q} {x0 x2 x3 : Value} {v : Int32} : AW d 236 23 [x0, .int v, x2, x3] (st) σ ρ g τ Q = AW d 236 24 [x0, .int v, x2, x3] (.int v :: st) σ ρ g τ Q := aw_lc m236 d236_23 rfl rfl rfl
theorem d236_24 : decode cX12_bills 24 = .ok (.invokevirtual 416, 3) := by decide +kernel
theorem s236_24 {d : Nat} {st : List Value} {σ : am_I} {ρ : am_R} {g : am_J} {τ : am_T} {Q : am_Q} {x0 x1 x2 x3 : Value} {p0 : Nat} {p1 : Int32} (ht : τ.1 p0 = 12) (hs : st.length ≤ 4) : AW (d + 1) 236 24 [x0, x1, x2, x3] (.int p1 :: .ref p0 :: st) σ ρ g τ Q = AW d 233 0 [.ref p0, .int p1, am_jk, am_jk] [] σ ρ g τ (fun r9 σ ρ g τ => AW (d + 1) 236 27 [x0, x1, x2, x3] (r9.toList ++ st) σ ρ g τ Q) := aw_cv m236 d236_24 rfl m233 rfl rfl (by decide) en233 ok233 rfl ht hs
theorem d236_27 : decode cX12_bills 27 = .ok (.ireturn, 1) := by decide +kernel
theorem s236_27 {d : Nat} {σ : am_I} {ρ : am_R} {g : am_J} {τ : am_T} {Q : am_Q} {x0 x1 x2 x3 : Value} {v : Int32} : AW d 236 27 [x0, x1, x2, x3] ([.int v]) σ ρ g τ Q = Q (some (.int v)) σ ρ g τ := aw_ri m236 d236_27 rfl
theorem d236_28 : decode cX12_bills 28 = .ok (.iconst 0, 1) := by decide +kernel
theorem s236_28 {d : Nat} {st : List Value} {σ : am_I} {ρ : am_R} {g : am_J} {τ : am_T} {Q : am_Q} {x0 x1 x2 x3 : Value} : AW d 236 28 [x0, x1, x2, x3] (st) σ ρ g τ Q = AW d 236 29 [x0, x1, x2, x3] (.int 0 :: st) σ ρ g τ Q := aw_lc m236 d236_28 rfl rfl rfl
theorem d236_29 : decode cX12_bills 29 = .ok (.istore_n 2, 1) := by decide +kernel
theorem s236_29 {d : Nat} {st : List Value} {σ : am_I} {ρ : am_R} {g : am_J} {τ : am_T} {Q : am_Q} {x0 x2 x3 : Value} {v : Int32} {u : Int32} : AW d 236 29 [x0, .int u, x2, x3] (.int v :: st) σ ρ g τ Q = AW d 236 30 [x0, .int u, .int v, x3] (st) σ ρ g τ Q := aw_lc m236 d236_29 rfl rfl rfl
theorem d236_30 : decode cX12_bills 30 = .ok (.iload_n 1, 1) := by decide +kernel
theorem s236_30 {d : Nat} {st : List Value} {σ : am_I} {ρ : am_R} {g : am_J} {τ : am_T} {Q : am_Q} {x0 x2 x3 : Value} {v : Int32} : AW d 236 30 [x0, .int v, x2, x3] (st) σ ρ g τ Q = AW d 236 31 [x0, .int v, x2, x3] (.int v :: st) σ ρ g τ Q := aw_lc m236 d236_30 rfl rfl rfl
theorem d236_31 : decode cX12_bills 31 = .ok (.bipush (-3), 2) := by decide +kernel
theorem s236_31 {d : Nat} {st : List Value} {σ : am_I} {ρ : am_R} {g : am_J} {τ : am_T} {Q : am_Q} {x0 x1 x2 x3 : Value} : AW d 236 31 [x0, x1, x2, x3] (st) σ ρ g τ Q = AW d 236 33 [x0, x1, x2, x3] (.int (-3) :: st) σ ρ g τ Q := aw_lc m236 d236_31 rfl rfl rfl
theorem d236_33 : decode cX12_bills 33 = .ok (.if_icmp .ne 34, 3) := by decide +kernel
theorem s236_33 {d : Nat} {st : List Value} {σ : am_I} {ρ : am_R} {g : am_J} {τ : am_T} {Q : am_Q} {x0 x1 x2 x3 : Value} {v w : Int32} : AW d 236 33 [x0, x1, x2, x3] (.int w :: .int v :: st) σ ρ g τ Q = if ¬ v = w then AW d 236 67 [x0, x1, x2, x3] (st) σ ρ g τ Q else AW d 236 36 [x0, x1, x2, x3] (st) σ ρ g τ Q := aw_br m236 d236_33 rfl rfl rfl
theorem d236_36 : decode cX12_bills 36 = .ok (.iconst 0, 1) := by decide +kernel
theorem s236_36 {d : Nat} {st : List Value} {σ : am_I} {ρ : am_R} {g : am_J} {τ : am_T} {Q : am_Q} {x0 x1 x2 x3 : Value} : AW d 236 36 [x0, x1, x2, x3] (st) σ ρ g τ Q = AW d 236 37 [x0, x1, x2, x3] (.int 0 :: st) σ ρ g τ Q := aw_lc m236 d236_36 rfl rfl rfl
theorem d236_37 : decode cX12_bills 37 = .ok (.istore_n 3, 1) := by decide +kernel
theorem s236_37 {d : Nat} {st : List Value} {σ : am_I} {ρ : am_R} {g : am_J} {τ : am_T} {Q : am_Q} {x0 x1 x3 : Value} {v : Int32} {u : Int32} : AW d 236 37 [x0, x1, .int u, x3] (.int v :: st) σ ρ g τ Q = AW d 236 38 [x0, x1, .int u, .int v] (st) σ ρ g τ Q := aw_lc m236 d236_37 rfl rfl rfl
theorem d236_38 : decode cX12_bills 38 = .ok (.iload_n 3, 1) := by decide +kernel
theorem s236_38 {d : Nat} {st : List Value} {σ : am_I} {ρ : am_R} {g : am_J} {τ : am_T} {Q : am_Q} {x0 x1 x2 : Value} {v : Int32} : AW d 236 38 [x0, x1, x2, .int v] (st) σ ρ g τ Q = AW d 236 39 [x0, x1, x2, .int v] (.int v :: st) σ ρ g τ Q := aw_lc m236 d236_38 rfl rfl rfl
theorem d236_39 : decode cX12_bills 39 = .ok (.aload_n 0, 1) := by decide +kernel
theorem s236_39 {d : Nat} {st : List Value} {σ : am_I} {ρ : am_R} {g : am_J} {τ : am_T} {Q : am_Q} {x1 x2 x3 : Value} {v : Nat} : AW d 236 39 [.ref v, x1, x2, x3] (st) σ ρ g τ Q = AW d 236 40 [.ref v, x1, x2, x3] (.ref v :: st) σ ρ g τ Q := aw_lc m236 d236_39 rfl rfl rfl
theorem d236_40 : decode cX12_bills 40 = .ok (.getfield 9, 3) := by decide +kernel
theorem s236_40 {d : Nat} {st : List Value} {σ : am_I} {ρ : am_R} {g : am_J} {τ : am_T} {Q : am_Q} {x0 x1 x2 x3 : Value} {a : Nat} (ht : τ.1 a = 12) : AW d 236 40 [x0, x1, x2, x3] (.ref a :: st) σ ρ g τ Q = AW d 236 43 [x0, x1, x2, x3] (va_rf (ρ a 0) :: st) σ ρ g τ Q := aw_gr m236 d236_40 rfl rfl rfl ht
theorem d236_43 : decode cX12_bills 43 = .ok (.iconst 5, 1) := by decide +kernel
theorem s236_43 {d : Nat} {st : List Value} {σ : am_I} {ρ : am_R} {g : am_J} {τ : am_T} {Q : am_Q} {x0 x1 x2 x3 : Value} : AW d 236 43 [x0, x1, x2, x3] (st) σ ρ g τ Q = AW d 236 44 [x0, x1, x2, x3] (.int 5 :: st) σ ρ g τ Q := aw_lc m236 d236_43 rfl rfl rfl
theorem d236_44 : decode cX12_bills 44 = .ok (.iaload, 1) := by decide +kernel
theorem s236_44 {d : Nat} {st : List Value} {σ : am_I} {ρ : am_R} {g : am_J} {τ : am_T} {Q : am_Q} {x0 x1 x2 x3 : Value} {a : Nat} {j : Int32} (ht : τ.1 a = 15) (hj : am_inb j (τ.2.1 a) = true) : AW d 236 44 [x0, x1, x2, x3] (.int j :: .ref a :: st) σ ρ g τ Q = AW d 236 45 [x0, x1, x2, x3] (.int (σ a j.toNatClampNeg) :: st) σ ρ g τ Q := aw_ial m236 d236_44 rfl ht hj
theorem d236_45 : decode cX12_bills 45 = .ok (.if_icmp .ge 20, 3) := by decide +kernel
theorem s236_45 {d : Nat} {st : List Value} {σ : am_I} {ρ : am_R} {g : am_J} {τ : am_T} {Q : am_Q} {x0 x1 x2 x3 : Value} {v w : Int32} : AW d 236 45 [x0, x1, x2, x3] (.int w :: .int v :: st) σ ρ g τ Q = if w ≤ v then AW d 236 65 [x0, x1, x2, x3] (st) σ ρ g τ Q else AW d 236 48 [x0, x1, x2, x3] (st) σ ρ g τ Q := aw_br m236 d236_45 rfl rfl rfl
theorem d236_48 : decode cX12_bills 48 = .ok (.aload_n 0, 1) := by decide +kernel
theorem s236_48 {d : Nat} {st : List Value} {σ : am_I} {ρ : am_R} {g : am_J} {τ : am_T} {Q : am_Q} {x1 x2 x3 : Value} {v : Nat} : AW d 236 48 [.ref v, x1, x2, x3] (st) σ ρ g τ Q = AW d 236 49 [.ref v, x1, x2, x3] (.ref v :: st) σ ρ g τ Q := aw_lc m236 d236_48 rfl rfl rfl
theorem d236_49 : decode cX12_bills 49 = .ok (.iload_n 3, 1) := by decide +kernel
theorem s236_49 {d : Nat} {st : List Value} {σ : am_I} {ρ : am_R} {g : am_J} {τ : am_T} {Q : am_Q} {x0 x1 x2 : Value} {v : Int32} : AW d 236 49 [x0, x1, x2, .int v] (st) σ ρ g τ Q = AW d 236 50 [x0, x1, x2, .int v] (.int v :: st) σ ρ g τ Q := aw_lc m236 d236_49 rfl rfl rfl
theorem d236_50 : decode cX12_bills 50 = .ok (.invokevirtual 416, 3) := by decide +kernel
theorem s236_50 {d : Nat} {st : List Value} {σ : am_I} {ρ : am_R} {g : am_J} {τ : am_T} {Q : am_Q} {x0 x1 x2 x3 : Value} {p0 : Nat} {p1 : Int32} (ht : τ.1 p0 = 12) (hs : st.length ≤ 4) : AW (d + 1) 236 50 [x0, x1, x2, x3] (.int p1 :: .ref p0 :: st) σ ρ g τ Q = AW d 233 0 [.ref p0, .int p1, am_jk, am_jk] [] σ ρ g τ (fun r9 σ ρ g τ => AW (d + 1) 236 53 [x0, x1, x2, x3] (r9.toList ++ st) σ ρ g τ Q) := aw_cv m236 d236_50 rfl m233 rfl rfl (by decide) en233 ok233 rfl ht hs
theorem d236_53 : decode cX12_bills 53 = .ok (.ifCond .ne 6, 3) := by decide +kernel
theorem s236_53 {d : Nat} {st : List Value} {σ : am_I} {ρ : am_R} {g : am_J} {τ : am_T} {Q : am_Q} {x0 x1 x2 x3 : Value} {v : Int32} : AW d 236 53 [x0, x1, x2, x3] (.int v :: st) σ ρ g τ Q = if ¬ v = 0 then AW d 236 59 [x0, x1, x2, x3] (st) σ ρ g τ Q else AW d 236 56 [x0, x1, x2, x3] (st) σ ρ g τ Q := aw_br m236 d236_53 rfl rfl rfl
theorem d236_56 : decode cX12_bills 56 = .ok (.iinc 2 1, 3) := by decide +kernel
theorem s236_56 {d : Nat} {st : List Value} {σ : am_I} {ρ : am_R} {g : am_J} {τ : am_T} {Q : am_Q} {x0 x3 : Value} {v : Int32} {u : Int32} : AW d 236 56 [x0, .int u, .int v, x3] (st) σ ρ g τ Q = AW d 236 59 [x0, .int u, .int (v + 1), x3] (st) σ ρ g τ Q := aw_lc m236 d236_56 rfl rfl rfl
theorem d236_59 : decode cX12_bills 59 = .ok (.iinc 3 1, 3) := by decide +kernel
theorem s236_59 {d : Nat} {st : List Value} {σ : am_I} {ρ : am_R} {g : am_J} {τ : am_T} {Q : am_Q} {x0 x1 : Value} {v : Int32} {u : Int32} : AW d 236 59 [x0, x1, .int u, .int v] (st) σ ρ g τ Q = AW d 236 62 [x0, x1, .int u, .int (v + 1)] (st) σ ρ g τ Q := aw_lc m236 d236_59 rfl rfl rfl
theorem d236_62 : decode cX12_bills 62 = .ok (.goto (-24), 3) := by decide +kernel
theorem s236_62 {d : Nat} {st : List Value} {σ : am_I} {ρ : am_R} {g : am_J} {τ : am_T} {Q : am_Q} {x0 x1 x2 x3 : Value} : AW d 236 62 [x0, x1, x2, x3] (st) σ ρ g τ Q = AW d 236 38 [x0, x1, x2, x3] (st) σ ρ g τ Q := aw_lc m236 d236_62 rfl rfl rfl
theorem d236_65 : decode cX12_bills 65 = .ok (.iload_n 2, 1) := by decide +kernel
theorem s236_65 {d : Nat} {st : List Value} {σ : am_I} {ρ : am_R} {g : am_J} {τ : am_T} {Q : am_Q} {x0 x1 x3 : Value} {v : Int32} : AW d 236 65 [x0, x1, .int v, x3] (st) σ ρ g τ Q = AW d 236 66 [x0, x1, .int v, x3] (.int v :: st) σ ρ g τ Q := aw_lc m236 d236_65 rfl rfl rfl
theorem d236_66 : decode cX12_bills 66 = .ok (.ireturn, 1) := by decide +kernel
theorem s236_66 {d : Nat} {σ : am_I} {ρ : am_R} {g : am_J} {τ : am_T} {Q : am_Q} {x0 x1 x2 x3 : Value} {v : Int32} : AW d 236 66 [x0, x1, x2, x3] ([.int v]) σ ρ g τ Q = Q (some (.int v)) σ ρ g τ := aw_ri m236 d236_66 rfl
theorem d236_67 : decode cX12_bills 67 = .ok (.aload_n 0, 1) := by decide +kernel
theorem s236_67 {d : Nat} {st : List Value} {σ : am_I} {ρ : am_R} {g : am_J} {τ : am_T} {Q : am_Q} {x1 x2 x3 : Value} {v : Nat} : AW d 236 67 [.ref v, x1, x2, x3] (st) σ ρ g τ Q = AW d 236 68 [.ref v, x1, x2, x3] (.ref v :: st) σ ρ g τ Q := aw_lc m236 d236_67 rfl rfl rfl
theorem d236_68 : decode cX12_bills 68 = .ok (.invokevirtual 419, 3) := by decide +kernel
theorem s236_68 {d : Nat} {st : List Value} {σ : am_I} {ρ : am_R} {g : am_J} {τ : am_T} {Q : am_Q} {x0 x1 x2 x3 : Value} {p0 : Nat} (ht : τ.1 p0 = 12) (hs : st.length ≤ 4) : AW (d + 1) 236 68 [x0, x1, x2, x3] (.ref p0 :: st) σ ρ g τ Q = AW d 235 0 [.ref p0, am_jk, am_jk] [] σ ρ g τ (fun r9 σ ρ g τ => AW (d + 1) 236 71 [x0, x1, x2, x3] (r9.toList ++ st) σ ρ g τ Q) := aw_cv m236 d236_68 rfl m235 rfl rfl (by decide) en235 ok235 rfl ht hs
theorem d236_71 : decode cX12_bills 71 = .ok (.iconst 0, 1) := by decide +kernel
theorem s236_71 {d : Nat} {st : List Value} {σ : am_I} {ρ : am_R} {g : am_J} {τ : am_T} {Q : am_Q} {x0 x1 x2 x3 : Value} : AW d 236 71 [x0, x1, x2, x3] (st) σ ρ g τ Q = AW d 236 72 [x0, x1, x2, x3] (.int 0 :: st) σ ρ g τ Q := aw_lc m236 d236_71 rfl rfl rfl
theorem d236_72 : decode cX12_bills 72 = .ok (.istore_n 3, 1) := by decide +kernel
theorem s236_72 {d : Nat} {st : List Value} {σ : am_I} {ρ : am_R} {g : am_J} {τ : am_T} {Q : am_Q} {x0 x1 x3 : Value} {v : Int32} {u : Int32} : AW d 236 72 [x0, x1, .int u, x3] (.int v :: st) σ ρ g τ Q = AW d 236 73 [x0, x1, .int u, .int v] (st) σ ρ g τ Q := aw_lc m236 d236_72 rfl rfl rfl
theorem d236_73 : decode cX12_bills 73 = .ok (.iload_n 3, 1) := by decide +kernel
theorem s236_73 {d : Nat} {st : List Value} {σ : am_I} {ρ : am_R} {g : am_J} {τ : am_T} {Q : am_Q} {x0 x1 x2 : Value} {v : Int32} : AW d 236 73 [x0, x1, x2, .int v] (st) σ ρ g τ Q = AW d 236 74 [x0, x1, x2, .int v] (.int v :: st) σ ρ g τ Q := aw_lc m236 d236_73 rfl rfl rfl
theorem d236_74 : decode cX12_bills 74 = .ok (.aload_n 0, 1) := by decide +kernel
theorem s236_74 {d : Nat} {st : List Value} {σ : am_I} {ρ : am_R} {g : am_J} {τ : am_T} {Q : am_Q} {x1 x2 x3 : Value} {v : Nat} : AW d 236 74 [.ref v, x1, x2, x3] (st) σ ρ g τ Q = AW d 236 75 [.ref v, x1, x2, x3] (.ref v :: st) σ ρ g τ Q := aw_lc m236 d236_74 rfl rfl rfl
theorem d236_75 : decode cX12_bills 75 = .ok (.getfield 9, 3) := by decide +kernel
theorem s236_75 {d : Nat} {st : List Value} {σ : am_I} {ρ : am_R} {g : am_J} {τ : am_T} {Q : am_Q} {x0 x1 x2 x3 : Value} {a : Nat} (ht : τ.1 a = 12) : AW d 236 75 [x0, x1, x2, x3] (.ref a :: st) σ ρ g τ Q = AW d 236 78 [x0, x1, x2, x3] (va_rf (ρ a 0) :: st) σ ρ g τ Q := aw_gr m236 d236_75 rfl rfl rfl ht
theorem d236_78 : decode cX12_bills 78 = .ok (.iconst 5, 1) := by decide +kernel
theorem s236_78 {d : Nat} {st : List Value} {σ : am_I} {ρ : am_R} {g : am_J} {τ : am_T} {Q : am_Q} {x0 x1 x2 x3 : Value} : AW d 236 78 [x0, x1, x2, x3] (st) σ ρ g τ Q = AW d 236 79 [x0, x1, x2, x3] (.int 5 :: st) σ ρ g τ Q := aw_lc m236 d236_78 rfl rfl rfl
theorem d236_79 : decode cX12_bills 79 = .ok (.iaload, 1) := by decide +kernel
theorem s236_79 {d : Nat} {st : List Value} {σ : am_I} {ρ : am_R} {g : am_J} {τ : am_T} {Q : am_Q} {x0 x1 x2 x3 : Value} {a : Nat} {j : Int32} (ht : τ.1 a = 15) (hj : am_inb j (τ.2.1 a) = true) : AW d 236 79 [x0, x1, x2, x3] (.int j :: .ref a :: st) σ ρ g τ Q = AW d 236 80 [x0, x1, x2, x3] (.int (σ a j.toNatClampNeg) :: st) σ ρ g τ Q := aw_ial m236 d236_79 rfl ht hj
theorem d236_80 : decode cX12_bills 80 = .ok (.if_icmp .ge 49, 3) := by decide +kernel
theorem s236_80 {d : Nat} {st : List Value} {σ : am_I} {ρ : am_R} {g : am_J} {τ : am_T} {Q : am_Q} {x0 x1 x2 x3 : Value} {v w : Int32} : AW d 236 80 [x0, x1, x2, x3] (.int w :: .int v :: st) σ ρ g τ Q = if w ≤ v then AW d 236 129 [x0, x1, x2, x3] (st) σ ρ g τ Q else AW d 236 83 [x0, x1, x2, x3] (st) σ ρ g τ Q := aw_br m236 d236_80 rfl rfl rfl
theorem d236_83 : decode cX12_bills 83 = .ok (.aload_n 0, 1) := by decide +kernel
theorem s236_83 {d : Nat} {st : List Value} {σ : am_I} {ρ : am_R} {g : am_J} {τ : am_T} {Q : am_Q} {x1 x2 x3 : Value} {v : Nat} : AW d 236 83 [.ref v, x1, x2, x3] (st) σ ρ g τ Q = AW d 236 84 [.ref v, x1, x2, x3] (.ref v :: st) σ ρ g τ Q := aw_lc m236 d236_83 rfl rfl rfl
theorem d236_84 : decode cX12_bills 84 = .ok (.getfield 100, 3) := by decide +kernel
theorem s236_84 {d : Nat} {st : List Value} {σ : am_I} {ρ : am_R} {g : am_J} {τ : am_T} {Q : am_Q} {x0 x1 x2 x3 : Value} {a : Nat} (ht : τ.1 a = 12) : AW d 236 84 [x0, x1, x2, x3] (.ref a :: st) σ ρ g τ Q = AW d 236 87 [x0, x1, x2, x3] (va_rf (ρ a 30) :: st) σ ρ g τ Q := aw_gr m236 d236_84 rfl rfl rfl ht
theorem d236_87 : decode cX12_bills 87 = .ok (.iload_n 3, 1) := by decide +kernel
theorem s236_87 {d : Nat} {st : List Value} {σ : am_I} {ρ : am_R} {g : am_J} {τ : am_T} {Q : am_Q} {x0 x1 x2 : Value} {v : Int32} : AW d 236 87 [x0, x1, x2, .int v] (st) σ ρ g τ Q = AW d 236 88 [x0, x1, x2, .int v] (.int v :: st) σ ρ g τ Q := aw_lc m236 d236_87 rfl rfl rfl
theorem d236_88 : decode cX12_bills 88 = .ok (.iaload, 1) := by decide +kernel
theorem s236_88 {d : Nat} {st : List Value} {σ : am_I} {ρ : am_R} {g : am_J} {τ : am_T} {Q : am_Q} {x0 x1 x2 x3 : Value} {a : Nat} {j : Int32} (ht : τ.1 a = 15) (hj : am_inb j (τ.2.1 a) = true) : AW d 236 88 [x0, x1, x2, x3] (.int j :: .ref a :: st) σ ρ g τ Q = AW d 236 89 [x0, x1, x2, x3] (.int (σ a j.toNatClampNeg) :: st) σ ρ g τ Q := aw_ial m236 d236_88 rfl ht hj
theorem d236_89 : decode cX12_bills 89 = .ok (.iconst 1, 1) := by decide +kernel
theorem s236_89 {d : Nat} {st : List Value} {σ : am_I} {ρ : am_R} {g : am_J} {τ : am_T} {Q : am_Q} {x0 x1 x2 x3 : Value} : AW d 236 89 [x0, x1, x2, x3] (st) σ ρ g τ Q = AW d 236 90 [x0, x1, x2, x3] (.int 1 :: st) σ ρ g τ Q := aw_lc m236 d236_89 rfl rfl rfl
theorem d236_90 : decode cX12_bills 90 = .ok (.if_icmp .ne 15, 3) := by decide +kernel
theorem s236_90 {d : Nat} {st : List Value} {σ : am_I} {ρ : am_R} {g : am_J} {τ : am_T} {Q : am_Q} {x0 x1 x2 x3 : Value} {v w : Int32} : AW d 236 90 [x0, x1, x2, x3] (.int w :: .int v :: st) σ ρ g τ Q = if ¬ v = w then AW d 236 105 [x0, x1, x2, x3] (st) σ ρ g τ Q else AW d 236 93 [x0, x1, x2, x3] (st) σ ρ g τ Q := aw_br m236 d236_90 rfl rfl rfl
theorem d236_93 : decode cX12_bills 93 = .ok (.aload_n 0, 1) := by decide +kernel
theorem s236_93 {d : Nat} {st : List Value} {σ : am_I} {ρ : am_R} {g : am_J} {τ : am_T} {Q : am_Q} {x1 x2 x3 : Value} {v : Nat} : AW d 236 93 [.ref v, x1, x2, x3] (st) σ ρ g τ Q = AW d 236 94 [.ref v, x1, x2, x3] (.ref v :: st) σ ρ g τ Q := aw_lc m236 d236_93 rfl rfl rfl
theorem d236_94 : decode cX12_bills 94 = .ok (.getfield 188, 3) := by decide +kernel
theorem s236_94 {d : Nat} {st : List Value} {σ : am_I} {ρ : am_R} {g : am_J} {τ : am_T} {Q : am_Q} {x0 x1 x2 x3 : Value} {a : Nat} (ht : τ.1 a = 12) : AW d 236 94 [x0, x1, x2, x3] (.ref a :: st) σ ρ g τ Q = AW d 236 97 [x0, x1, x2, x3] (va_rf (ρ a 68) :: st) σ ρ g τ Q := aw_gr m236 d236_94 rfl rfl rfl ht
theorem d236_97 : decode cX12_bills 97 = .ok (.iload_n 3, 1) := by decide +kernel
theorem s236_97 {d : Nat} {st : List Value} {σ : am_I} {ρ : am_R} {g : am_J} {τ : am_T} {Q : am_Q} {x0 x1 x2 : Value} {v : Int32} : AW d 236 97 [x0, x1, x2, .int v] (st) σ ρ g τ Q = AW d 236 98 [x0, x1, x2, .int v] (.int v :: st) σ ρ g τ Q := aw_lc m236 d236_97 rfl rfl rfl
theorem d236_98 : decode cX12_bills 98 = .ok (.iaload, 1) := by decide +kernel
theorem s236_98 {d : Nat} {st : List Value} {σ : am_I} {ρ : am_R} {g : am_J} {τ : am_T} {Q : am_Q} {x0 x1 x2 x3 : Value} {a : Nat} {j : Int32} (ht : τ.1 a = 15) (hj : am_inb j (τ.2.1 a) = true) : AW d 236 98 [x0, x1, x2, x3] (.int j :: .ref a :: st) σ ρ g τ Q = AW d 236 99 [x0, x1, x2, x3] (.int (σ a j.toNatClampNeg) :: st) σ ρ g τ Q := aw_ial m236 d236_98 rfl ht hj
theorem d236_99 : decode cX12_bills 99 = .ok (.ifCond .lt 6, 3) := by decide +kernel
theorem s236_99 {d : Nat} {st : List Value} {σ : am_I} {ρ : am_R} {g : am_J} {τ : am_T} {Q : am_Q} {x0 x1 x2 x3 : Value} {v : Int32} : AW d 236 99 [x0, x1, x2, x3] (.int v :: st) σ ρ g τ Q = if v < 0 then AW d 236 105 [x0, x1, x2, x3] (st) σ ρ g τ Q else AW d 236 102 [x0, x1, x2, x3] (st) σ ρ g τ Q := aw_br m236 d236_99 rfl rfl rfl
theorem d236_102 : decode cX12_bills 102 = .ok (.goto 21, 3) := by decide +kernel
theorem s236_102 {d : Nat} {st : List Value} {σ : am_I} {ρ : am_R} {g : am_J} {τ : am_T} {Q : am_Q} {x0 x1 x2 x3 : Value} : AW d 236 102 [x0, x1, x2, x3] (st) σ ρ g τ Q = AW d 236 123 [x0, x1, x2, x3] (st) σ ρ g τ Q := aw_lc m236 d236_102 rfl rfl rfl
theorem d236_105 : decode cX12_bills 105 = .ok (.iload_n 2, 1) := by decide +kernel
theorem s236_105 {d : Nat} {st : List Value} {σ : am_I} {ρ : am_R} {g : am_J} {τ : am_T} {Q : am_Q} {x0 x1 x3 : Value} {v : Int32} : AW d 236 105 [x0, x1, .int v, x3] (st) σ ρ g τ Q = AW d 236 106 [x0, x1, .int v, x3] (.int v :: st) σ ρ g τ Q := aw_lc m236 d236_105 rfl rfl rfl
theorem d236_106 : decode cX12_bills 106 = .ok (.iload_n 1, 1) := by decide +kernel
theorem s236_106 {d : Nat} {st : List Value} {σ : am_I} {ρ : am_R} {g : am_J} {τ : am_T} {Q : am_Q} {x0 x2 x3 : Value} {v : Int32} : AW d 236 106 [x0, .int v, x2, x3] (st) σ ρ g τ Q = AW d 236 107 [x0, .int v, x2, x3] (.int v :: st) σ ρ g τ Q := aw_lc m236 d236_106 rfl rfl rfl
theorem d236_107 : decode cX12_bills 107 = .ok (.iconst (-1), 1) := by decide +kernel
theorem s236_107 {d : Nat} {st : List Value} {σ : am_I} {ρ : am_R} {g : am_J} {τ : am_T} {Q : am_Q} {x0 x1 x2 x3 : Value} : AW d 236 107 [x0, x1, x2, x3] (st) σ ρ g τ Q = AW d 236 108 [x0, x1, x2, x3] (.int (-1) :: st) σ ρ g τ Q := aw_lc m236 d236_107 rfl rfl rfl
theorem d236_108 : decode cX12_bills 108 = .ok (.if_icmp .ne 7, 3) := by decide +kernel
theorem s236_108 {d : Nat} {st : List Value} {σ : am_I} {ρ : am_R} {g : am_J} {τ : am_T} {Q : am_Q} {x0 x1 x2 x3 : Value} {v w : Int32} : AW d 236 108 [x0, x1, x2, x3] (.int w :: .int v :: st) σ ρ g τ Q = if ¬ v = w then AW d 236 115 [x0, x1, x2, x3] (st) σ ρ g τ Q else AW d 236 111 [x0, x1, x2, x3] (st) σ ρ g τ Q := aw_br m236 d236_108 rfl rfl rfl
theorem d236_111 : decode cX12_bills 111 = .ok (.iconst 1, 1) := by decide +kernel
theorem s236_111 {d : Nat} {st : List Value} {σ : am_I} {ρ : am_R} {g : am_J} {τ : am_T} {Q : am_Q} {x0 x1 x2 x3 : Value} : AW d 236 111 [x0, x1, x2, x3] (st) σ ρ g τ Q = AW d 236 112 [x0, x1, x2, x3] (.int 1 :: st) σ ρ g τ Q := aw_lc m236 d236_111 rfl rfl rfl
theorem d236_112 : decode cX12_bills 112 = .ok (.goto 9, 3) := by decide +kernel
theorem s236_112 {d : Nat} {st : List Value} {σ : am_I} {ρ : am_R} {g : am_J} {τ : am_T} {Q : am_Q} {x0 x1 x2 x3 : Value} : AW d 236 112 [x0, x1, x2, x3] (st) σ ρ g τ Q = AW d 236 121 [x0, x1, x2, x3] (st) σ ρ g τ Q := aw_lc m236 d236_112 rfl rfl rfl
theorem d236_115 : decode cX12_bills 115 = .ok (.aload_n 0, 1) := by decide +kernel
theorem s236_115 {d : Nat} {st : List Value} {σ : am_I} {ρ : am_R} {g : am_J} {τ : am_T} {Q : am_Q} {x1 x2 x3 : Value} {v : Nat} : AW d 236 115 [.ref v, x1, x2, x3] (st) σ ρ g τ Q = AW d 236 116 [.ref v, x1, x2, x3] (.ref v :: st) σ ρ g τ Q := aw_lc m236 d236_115 rfl rfl rfl
theorem d236_116 : decode cX12_bills 116 = .ok (.getfield 103, 3) := by decide +kernel
theorem s236_116 {d : Nat} {st : List Value} {σ : am_I} {ρ : am_R} {g : am_J} {τ : am_T} {Q : am_Q} {x0 x1 x2 x3 : Value} {a : Nat} (ht : τ.1 a = 12) : AW d 236 116 [x0, x1, x2, x3] (.ref a :: st) σ ρ g τ Q = AW d 236 119 [x0, x1, x2, x3] (va_rf (ρ a 31) :: st) σ ρ g τ Q := aw_gr m236 d236_116 rfl rfl rfl ht
theorem d236_119 : decode cX12_bills 119 = .ok (.iload_n 3, 1) := by decide +kernel
theorem s236_119 {d : Nat} {st : List Value} {σ : am_I} {ρ : am_R} {g : am_J} {τ : am_T} {Q : am_Q} {x0 x1 x2 : Value} {v : Int32} : AW d 236 119 [x0, x1, x2, .int v] (st) σ ρ g τ Q = AW d 236 120 [x0, x1, x2, .int v] (.int v :: st) σ ρ g τ Q := aw_lc m236 d236_119 rfl rfl rfl
theorem d236_120 : decode cX12_bills 120 = .ok (.iaload, 1) := by decide +kernel
theorem s236_120 {d : Nat} {st : List Value} {σ : am_I} {ρ : am_R} {g : am_J} {τ : am_T} {Q : am_Q} {x0 x1 x2 x3 : Value} {a : Nat} {j : Int32} (ht : τ.1 a = 15) (hj : am_inb j (τ.2.1 a) = true) : AW d 236 120 [x0, x1, x2, x3] (.int j :: .ref a :: st) σ ρ g τ Q = AW d 236 121 [x0, x1, x2, x3] (.int (σ a j.toNatClampNeg) :: st) σ ρ g τ Q := aw_ial m236 d236_120 rfl ht hj
theorem d236_121 : decode cX12_bills 121 = .ok (.iadd, 1) := by decide +kernel
theorem s236_121 {d : Nat} {st : List Value} {σ : am_I} {ρ : am_R} {g : am_J} {τ : am_T} {Q : am_Q} {x0 x1 x2 x3 : Value} {v w : Int32} : AW d 236 121 [x0, x1, x2, x3] (.int w :: .int v :: st) σ ρ g τ Q = AW d 236 122 [x0, x1, x2, x3] (.int (v + w) :: st) σ ρ g τ Q := aw_lc m236 d236_121 rfl rfl rfl
theorem d236_122 : decode cX12_bills 122 = .ok (.istore_n 2, 1) := by decide +kernel
theorem s236_122 {d : Nat} {st : List Value} {σ : am_I} {ρ : am_R} {g : am_J} {τ : am_T} {Q : am_Q} {x0 x2 x3 : Value} {v : Int32} {u : Int32} : AW d 236 122 [x0, .int u, x2, x3] (.int v :: st) σ ρ g τ Q = AW d 236 123 [x0, .int u, .int v, x3] (st) σ ρ g τ Q := aw_lc m236 d236_122 rfl rfl rfl
theorem d236_123 : decode cX12_bills 123 = .ok (.iinc 3 1, 3) := by decide +kernel
theorem s236_123 {d : Nat} {st : List Value} {σ : am_I} {ρ : am_R} {g : am_J} {τ : am_T} {Q : am_Q} {x0 x1 : Value} {v : Int32} {u : Int32} : AW d 236 123 [x0, x1, .int u, .int v] (st) σ ρ g τ Q = AW d 236 126 [x0, x1, .int u, .int (v + 1)] (st) σ ρ g τ Q := aw_lc m236 d236_123 rfl rfl rfl
theorem d236_126 : decode cX12_bills 126 = .ok (.goto (-53), 3) := by decide +kernel
theorem s236_126 {d : Nat} {st : List Value} {σ : am_I} {ρ : am_R} {g : am_J} {τ : am_T} {Q : am_Q} {x0 x1 x2 x3 : Value} : AW d 236 126 [x0, x1, x2, x3] (st) σ ρ g τ Q = AW d 236 73 [x0, x1, x2, x3] (st) σ ρ g τ Q := aw_lc m236 d236_126 rfl rfl rfl
theorem d236_129 : decode cX12_bills 129 = .ok (.iload_n 2, 1) := by decide +kernel
theorem s236_129 {d : Nat} {st : List Value} {σ : am_I} {ρ : am_R} {g : am_J} {τ : am_T} {Q : am_Q} {x0 x1 x3 : Value} {v : Int32} : AW d 236 129 [x0, x1, .int v, x3] (st) σ ρ g τ Q = AW d 236 130 [x0, x1, .int v, x3] (.int v :: st) σ ρ g τ Q := aw_lc m236 d236_129 rfl rfl rfl
theorem d236_130 : decode cX12_bills 130 = .ok (.ireturn, 1) := by decide +kernel
theorem s236_130 {d : Nat} {σ : am_I} {ρ : am_R} {g : am_J} {τ : am_T} {Q : am_Q} {x0 x1 x2 x3 : Value} {v : Int32} : AW d 236 130 [x0, x1, x2, x3] ([.int v]) σ ρ g τ Q = Q (some (.int v)) σ ρ g τ := aw_ri m236 d236_130 rfl
theorem d237_0 : decode cX12_taking 0 = .ok (.iload_n 1, 1) := by decide +kernel
theorem s237_0 {d : Nat} {st : List Value} {σ : am_I} {ρ : am_R} {g : am_J} {τ : am_T} {Q : am_Q} {x0 x2 x3 : Value} {v : Int32} : AW d 237 0 [x0, .int v, x2, x3] (st) σ ρ g τ Q = AW d 237 1 [x0, .int v, x2, x3] (.int v :: st) σ ρ g τ Q := aw_lc m237 d237_0 rfl rfl rfl
theorem d237_1 : decode cX12_taking 1 = .ok (.iconst 0, 1) := by decide +kernel
theorem s237_1 {d : Nat} {st : List Value} {σ : am_I} {ρ : am_R} {g : am_J} {τ : am_T} {Q : am_Q} {x0 x1 x2 x3 : Value} : AW d 237 1 [x0, x1, x2, x3] (st) σ ρ g τ Q = AW d 237 2 [x0, x1, x2, x3] (.int 0 :: st) σ ρ g τ Q := aw_lc m237 d237_1 rfl rfl rfl
theorem d237_2 : decode cX12_taking 2 = .ok (.iconst 2, 1) := by decide +kernel
theorem s237_2 {d : Nat} {st : List Value} {σ : am_I} {ρ : am_R} {g : am_J} {τ : am_T} {Q : am_Q} {x0 x1 x2 x3 : Value} : AW d 237 2 [x0, x1, x2, x3] (st) σ ρ g τ Q = AW d 237 3 [x0, x1, x2, x3] (.int 2 :: st) σ ρ g τ Q := aw_lc m237 d237_2 rfl rfl rfl
theorem d237_3 : decode cX12_taking 3 = .ok (.invokestatic 194, 3) := by decide +kernel
theorem s237_3 {d : Nat} {st : List Value} {σ : am_I} {ρ : am_R} {g : am_J} {τ : am_T} {Q : am_Q} {x0 x1 x2 x3 : Value} {p0 : Int32} {p1 : Int32} {p2 : Int32} (hs : st.length ≤ 4) : AW (d + 1) 237 3 [x0, x1, x2, x3] (.int p2 :: .int p1 :: .int p0 :: st) σ ρ g τ Q = AW d 165 0 [.int p0, .int p1, .int p2] [] σ ρ g τ (fun r9 σ ρ g τ => AW (d + 1) 237 6 [x0, x1, x2, x3] (r9.toList ++ st) σ ρ g τ Q) := aw_cs m237 d237_3 rfl (by simp only [List.length_cons]; omega) rfl rfl en165 ok165 rfl hs
theorem d237_6 : decode cX12_taking 6 = .ok (.ifCond .eq 14, 3) := by decide +kernel
theorem s237_6 {d : Nat} {st : List Value} {σ : am_I} {ρ : am_R} {g : am_J} {τ : am_T} {Q : am_Q} {x0 x1 x2 x3 : Value} {v : Int32} : AW d 237 6 [x0, x1, x2, x3] (.int v :: st) σ ρ g τ Q = if v = 0 then AW d 237 20 [x0, x1, x2, x3] (st) σ ρ g τ Q else AW d 237 9 [x0, x1, x2, x3] (st) σ ρ g τ Q := aw_br m237 d237_6 rfl rfl rfl
theorem d237_9 : decode cX12_taking 9 = .ok (.iload_n 2, 1) := by decide +kernel
theorem s237_9 {d : Nat} {st : List Value} {σ : am_I} {ρ : am_R} {g : am_J} {τ : am_T} {Q : am_Q} {x0 x1 x3 : Value} {v : Int32} : AW d 237 9 [x0, x1, .int v, x3] (st) σ ρ g τ Q = AW d 237 10 [x0, x1, .int v, x3] (.int v :: st) σ ρ g τ Q := aw_lc m237 d237_9 rfl rfl rfl
theorem d237_10 : decode cX12_taking 10 = .ok (.iconst 1, 1) := by decide +kernel
theorem s237_10 {d : Nat} {st : List Value} {σ : am_I} {ρ : am_R} {g : am_J} {τ : am_T} {Q : am_Q} {x0 x1 x2 x3 : Value} : AW d 237 10 [x0, x1, x2, x3] (st) σ ρ g τ Q = AW d 237 11 [x0, x1, x2, x3] (.int 1 :: st) σ ρ g τ Q := aw_lc m237 d237_10 rfl rfl rfl
theorem d237_11 : decode cX12_taking 11 = .ok (.sipush 999, 3) := by decide +kernel
theorem s237_11 {d : Nat} {st : List Value} {σ : am_I} {ρ : am_R} {g : am_J} {τ : am_T} {Q : am_Q} {x0 x1 x2 x3 : Value} : AW d 237 11 [x0, x1, x2, x3] (st) σ ρ g τ Q = AW d 237 14 [x0, x1, x2, x3] (.int 999 :: st) σ ρ g τ Q := aw_lc m237 d237_11 rfl rfl rfl
theorem d237_14 : decode cX12_taking 14 = .ok (.invokestatic 194, 3) := by decide +kernel
theorem s237_14 {d : Nat} {st : List Value} {σ : am_I} {ρ : am_R} {g : am_J} {τ : am_T} {Q : am_Q} {x0 x1 x2 x3 : Value} {p0 : Int32} {p1 : Int32} {p2 : Int32} (hs : st.length ≤ 4) : AW (d + 1) 237 14 [x0, x1, x2, x3] (.int p2 :: .int p1 :: .int p0 :: st) σ ρ g τ Q = AW d 165 0 [.int p0, .int p1, .int p2] [] σ ρ g τ (fun r9 σ ρ g τ => AW (d + 1) 237 17 [x0, x1, x2, x3] (r9.toList ++ st) σ ρ g τ Q) := aw_cs m237 d237_14 rfl (by simp only [List.length_cons]; omega) rfl rfl en165 ok165 rfl hs
theorem d237_17 : decode cX12_taking 17 = .ok (.ifCond .ne 5, 3) := by decide +kernel
theorem s237_17 {d : Nat} {st : List Value} {σ : am_I} {ρ : am_R} {g : am_J} {τ : am_T} {Q : am_Q} {x0 x1 x2 x3 : Value} {v : Int32} : AW d 237 17 [x0, x1, x2, x3] (.int v :: st) σ ρ g τ Q = if ¬ v = 0 then AW d 237 22 [x0, x1, x2, x3] (st) σ ρ g τ Q else AW d 237 20 [x0, x1, x2, x3] (st) σ ρ g τ Q := aw_br m237 d237_17 rfl rfl rfl
theorem d237_20 : decode cX12_taking 20 = .ok (.iconst (-1), 1) := by decide +kernel
theorem s237_20 {d : Nat} {st : List Value} {σ : am_I} {ρ : am_R} {g : am_J} {τ : am_T} {Q : am_Q} {x0 x1 x2 x3 : Value} : AW d 237 20 [x0, x1, x2, x3] (st) σ ρ g τ Q = AW d 237 21 [x0, x1, x2, x3] (.int (-1) :: st) σ ρ g τ Q := aw_lc m237 d237_20 rfl rfl rfl
theorem d237_21 : decode cX12_taking 21 = .ok (.ireturn, 1) := by decide +kernel
theorem s237_21 {d : Nat} {σ : am_I} {ρ : am_R} {g : am_J} {τ : am_T} {Q : am_Q} {x0 x1 x2 x3 : Value} {v : Int32} : AW d 237 21 [x0, x1, x2, x3] ([.int v]) σ ρ g τ Q = Q (some (.int v)) σ ρ g τ := aw_ri m237 d237_21 rfl
theorem d237_22 : decode cX12_taking 22 = .ok (.aload_n 0, 1) := by decide +kernel
theorem s237_22 {d : Nat} {st : List Value} {σ : am_I} {ρ : am_R} {g : am_J} {τ : am_T} {Q : am_Q} {x1 x2 x3 : Value} {v : Nat} : AW d 237 22 [.ref v, x1, x2, x3] (st) σ ρ g τ Q = AW d 237 23 [.ref v, x1, x2, x3] (.ref v :: st) σ ρ g τ Q := aw_lc m237 d237_22 rfl rfl rfl
theorem d237_23 : decode cX12_taking 23 = .ok (.getfield 9, 3) := by decide +kernel
theorem s237_23 {d : Nat} {st : List Value} {σ : am_I} {ρ : am_R} {g : am_J} {τ : am_T} {Q : am_Q} {x0 x1 x2 x3 : Value} {a : Nat} (ht : τ.1 a = 12) : AW d 237 23 [x0, x1, x2, x3] (.ref a :: st) σ ρ g τ Q = AW d 237 26 [x0, x1, x2, x3] (va_rf (ρ a 0) :: st) σ ρ g τ Q := aw_gr m237 d237_23 rfl rfl rfl ht
theorem d237_26 : decode cX12_taking 26 = .ok (.bipush 6, 2) := by decide +kernel
theorem s237_26 {d : Nat} {st : List Value} {σ : am_I} {ρ : am_R} {g : am_J} {τ : am_T} {Q : am_Q} {x0 x1 x2 x3 : Value} : AW d 237 26 [x0, x1, x2, x3] (st) σ ρ g τ Q = AW d 237 28 [x0, x1, x2, x3] (.int 6 :: st) σ ρ g τ Q := aw_lc m237 d237_26 rfl rfl rfl
theorem d237_28 : decode cX12_taking 28 = .ok (.iaload, 1) := by decide +kernel
theorem s237_28 {d : Nat} {st : List Value} {σ : am_I} {ρ : am_R} {g : am_J} {τ : am_T} {Q : am_Q} {x0 x1 x2 x3 : Value} {a : Nat} {j : Int32} (ht : τ.1 a = 15) (hj : am_inb j (τ.2.1 a) = true) : AW d 237 28 [x0, x1, x2, x3] (.int j :: .ref a :: st) σ ρ g τ Q = AW d 237 29 [x0, x1, x2, x3] (.int (σ a j.toNatClampNeg) :: st) σ ρ g τ Q := aw_ial m237 d237_28 rfl ht hj
theorem d237_29 : decode cX12_taking 29 = .ok (.bipush 16, 2) := by decide +kernel
theorem s237_29 {d : Nat} {st : List Value} {σ : am_I} {ρ : am_R} {g : am_J} {τ : am_T} {Q : am_Q} {x0 x1 x2 x3 : Value} : AW d 237 29 [x0, x1, x2, x3] (st) σ ρ g τ Q = AW d 237 31 [x0, x1, x2, x3] (.int 16 :: st) σ ρ g τ Q := aw_lc m237 d237_29 rfl rfl rfl
theorem d237_31 : decode cX12_taking 31 = .ok (.if_icmp .ne 6, 3) := by decide +kernel
theorem s237_31 {d : Nat} {st : List Value} {σ : am_I} {ρ : am_R} {g : am_J} {τ : am_T} {Q : am_Q} {x0 x1 x2 x3 : Value} {v w : Int32} : AW d 237 31 [x0, x1, x2, x3] (.int w :: .int v :: st) σ ρ g τ Q = if ¬ v = w then AW d 237 37 [x0, x1, x2, x3] (st) σ ρ g τ Q else AW d 237 34 [x0, x1, x2, x3] (st) σ ρ g τ Q := aw_br m237 d237_31 rfl rfl rfl
theorem d237_34 : decode cX12_taking 34 = .ok (.bipush (-2), 2) := by decide +kernel
theorem s237_34 {d : Nat} {st : List Value} {σ : am_I} {ρ : am_R} {g : am_J} {τ : am_T} {Q : am_Q} {x0 x1 x2 x3 : Value} : AW d 237 34 [x0, x1, x2, x3] (st) σ ρ g τ Q = AW d 237 36 [x0, x1, x2, x3] (.int (-2) :: st) σ ρ g τ Q := aw_lc m237 d237_34 rfl rfl rfl
theorem d237_36 : decode cX12_taking 36 = .ok (.ireturn, 1) := by decide +kernel
theorem s237_36 {d : Nat} {σ : am_I} {ρ : am_R} {g : am_J} {τ : am_T} {Q : am_Q} {x0 x1 x2 x3 : Value} {v : Int32} : AW d 237 36 [x0, x1, x2, x3] ([.int v]) σ ρ g τ Q = Q (some (.int v)) σ ρ g τ := aw_ri m237 d237_36 rfl
theorem d237_37 : decode cX12_taking 37 = .ok (.aload_n 0, 1) := by decide +kernel
theorem s237_37 {d : Nat} {st : List Value} {σ : am_I} {ρ : am_R} {g : am_J} {τ : am_T} {Q : am_Q} {x1 x2 x3 : Value} {v : Nat} : AW d 237 37 [.ref v, x1, x2, x3] (st) σ ρ g τ Q = AW d 237 38 [.ref v, x1, x2, x3] (.ref v :: st) σ ρ g τ Q := aw_lc m237 d237_37 rfl rfl rfl
theorem d237_38 : decode cX12_taking 38 = .ok (.getfield 9, 3) := by decide +kernel
theorem s237_38 {d : Nat} {st : List Value} {σ : am_I} {ρ : am_R} {g : am_J} {τ : am_T} {Q : am_Q} {x0 x1 x2 x3 : Value} {a : Nat} (ht : τ.1 a = 12) : AW d 237 38 [x0, x1, x2, x3] (.ref a :: st) σ ρ g τ Q = AW d 237 41 [x0, x1, x2, x3] (va_rf (ρ a 0) :: st) σ ρ g τ Q := aw_gr m237 d237_38 rfl rfl rfl ht
theorem d237_41 : decode cX12_taking 41 = .ok (.bipush 6, 2) := by decide +kernel
theorem s237_41 {d : Nat} {st : List Value} {σ : am_I} {ρ : am_R} {g : am_J} {τ : am_T} {Q : am_Q} {x0 x1 x2 x3 : Value} : AW d 237 41 [x0, x1, x2, x3] (st) σ ρ g τ Q = AW d 237 43 [x0, x1, x2, x3] (.int 6 :: st) σ ρ g τ Q := aw_lc m237 d237_41 rfl rfl rfl
theorem d237_43 : decode cX12_taking 43 = .ok (.iaload, 1) := by decide +kernel
theorem s237_43 {d : Nat} {st : List Value} {σ : am_I} {ρ : am_R} {g : am_J} {τ : am_T} {Q : am_Q} {x0 x1 x2 x3 : Value} {a : Nat} {j : Int32} (ht : τ.1 a = 15) (hj : am_inb j (τ.2.1 a) = true) : AW d 237 43 [x0, x1, x2, x3] (.int j :: .ref a :: st) σ ρ g τ Q = AW d 237 44 [x0, x1, x2, x3] (.int (σ a j.toNatClampNeg) :: st) σ ρ g τ Q := aw_ial m237 d237_43 rfl ht hj
theorem d237_44 : decode cX12_taking 44 = .ok (.istore_n 3, 1) := by decide +kernel
theorem s237_44 {d : Nat} {st : List Value} {σ : am_I} {ρ : am_R} {g : am_J} {τ : am_T} {Q : am_Q} {x0 x1 x3 : Value} {v : Int32} {u : Int32} : AW d 237 44 [x0, x1, .int u, x3] (.int v :: st) σ ρ g τ Q = AW d 237 45 [x0, x1, .int u, .int v] (st) σ ρ g τ Q := aw_lc m237 d237_44 rfl rfl rfl
theorem d237_45 : decode cX12_taking 45 = .ok (.aload_n 0, 1) := by decide +kernel
theorem s237_45 {d : Nat} {st : List Value} {σ : am_I} {ρ : am_R} {g : am_J} {τ : am_T} {Q : am_Q} {x1 x2 x3 : Value} {v : Nat} : AW d 237 45 [.ref v, x1, x2, x3] (st) σ ρ g τ Q = AW d 237 46 [.ref v, x1, x2, x3] (.ref v :: st) σ ρ g τ Q := aw_lc m237 d237_45 rfl rfl rfl
theorem d237_46 : decode cX12_taking 46 = .ok (.getfield 115, 3) := by decide +kernel
theorem s237_46 {d : Nat} {st : List Value} {σ : am_I} {ρ : am_R} {g : am_J} {τ : am_T} {Q : am_Q} {x0 x1 x2 x3 : Value} {a : Nat} (ht : τ.1 a = 12) : AW d 237 46 [x0, x1, x2, x3] (.ref a :: st) σ ρ g τ Q = AW d 237 49 [x0, x1, x2, x3] (va_rf (ρ a 35) :: st) σ ρ g τ Q := aw_gr m237 d237_46 rfl rfl rfl ht
theorem d237_49 : decode cX12_taking 49 = .ok (.iload_n 3, 1) := by decide +kernel
theorem s237_49 {d : Nat} {st : List Value} {σ : am_I} {ρ : am_R} {g : am_J} {τ : am_T} {Q : am_Q} {x0 x1 x2 : Value} {v : Int32} : AW d 237 49 [x0, x1, x2, .int v] (st) σ ρ g τ Q = AW d 237 50 [x0, x1, x2, .int v] (.int v :: st) σ ρ g τ Q := aw_lc m237 d237_49 rfl rfl rfl
theorem d237_50 : decode cX12_taking 50 = .ok (.iload_n 1, 1) := by decide +kernel
theorem s237_50 {d : Nat} {st : List Value} {σ : am_I} {ρ : am_R} {g : am_J} {τ : am_T} {Q : am_Q} {x0 x2 x3 : Value} {v : Int32} : AW d 237 50 [x0, .int v, x2, x3] (st) σ ρ g τ Q = AW d 237 51 [x0, .int v, x2, x3] (.int v :: st) σ ρ g τ Q := aw_lc m237 d237_50 rfl rfl rfl
theorem d237_51 : decode cX12_taking 51 = .ok (.iastore, 1) := by decide +kernel
theorem s237_51 {d : Nat} {st : List Value} {σ : am_I} {ρ : am_R} {g : am_J} {τ : am_T} {Q : am_Q} {x0 x1 x2 x3 : Value} {a : Nat} {j v : Int32} (ht : τ.1 a = 15) (ha : a < am_BG) (hj : am_inb j (τ.2.1 a) = true) : AW d 237 51 [x0, x1, x2, x3] (.int v :: .int j :: .ref a :: st) σ ρ g τ Q = AW d 237 52 [x0, x1, x2, x3] (st) (am_u σ a j.toNatClampNeg v) ρ g τ Q := aw_ias m237 d237_51 rfl ht ha hj
theorem d237_52 : decode cX12_taking 52 = .ok (.aload_n 0, 1) := by decide +kernel
theorem s237_52 {d : Nat} {st : List Value} {σ : am_I} {ρ : am_R} {g : am_J} {τ : am_T} {Q : am_Q} {x1 x2 x3 : Value} {v : Nat} : AW d 237 52 [.ref v, x1, x2, x3] (st) σ ρ g τ Q = AW d 237 53 [.ref v, x1, x2, x3] (.ref v :: st) σ ρ g τ Q := aw_lc m237 d237_52 rfl rfl rfl
theorem d237_53 : decode cX12_taking 53 = .ok (.getfield 118, 3) := by decide +kernel
theorem s237_53 {d : Nat} {st : List Value} {σ : am_I} {ρ : am_R} {g : am_J} {τ : am_T} {Q : am_Q} {x0 x1 x2 x3 : Value} {a : Nat} (ht : τ.1 a = 12) : AW d 237 53 [x0, x1, x2, x3] (.ref a :: st) σ ρ g τ Q = AW d 237 56 [x0, x1, x2, x3] (va_rf (ρ a 36) :: st) σ ρ g τ Q := aw_gr m237 d237_53 rfl rfl rfl ht
theorem d237_56 : decode cX12_taking 56 = .ok (.iload_n 3, 1) := by decide +kernel
theorem s237_56 {d : Nat} {st : List Value} {σ : am_I} {ρ : am_R} {g : am_J} {τ : am_T} {Q : am_Q} {x0 x1 x2 : Value} {v : Int32} : AW d 237 56 [x0, x1, x2, .int v] (st) σ ρ g τ Q = AW d 237 57 [x0, x1, x2, .int v] (.int v :: st) σ ρ g τ Q := aw_lc m237 d237_56 rfl rfl rfl
theorem d237_57 : decode cX12_taking 57 = .ok (.iload_n 2, 1) := by decide +kernel
theorem s237_57 {d : Nat} {st : List Value} {σ : am_I} {ρ : am_R} {g : am_J} {τ : am_T} {Q : am_Q} {x0 x1 x3 : Value} {v : Int32} : AW d 237 57 [x0, x1, .int v, x3] (st) σ ρ g τ Q = AW d 237 58 [x0, x1, .int v, x3] (.int v :: st) σ ρ g τ Q := aw_lc m237 d237_57 rfl rfl rfl
theorem d237_58 : decode cX12_taking 58 = .ok (.iastore, 1) := by decide +kernel
theorem s237_58 {d : Nat} {st : List Value} {σ : am_I} {ρ : am_R} {g : am_J} {τ : am_T} {Q : am_Q} {x0 x1 x2 x3 : Value} {a : Nat} {j v : Int32} (ht : τ.1 a = 15) (ha : a < am_BG) (hj : am_inb j (τ.2.1 a) = true) : AW d 237 58 [x0, x1, x2, x3] (.int v :: .int j :: .ref a :: st) σ ρ g τ Q = AW d 237 59 [x0, x1, x2, x3] (st) (am_u σ a j.toNatClampNeg v) ρ g τ Q := aw_ias m237 d237_58 rfl ht ha hj
theorem d237_59 : decode cX12_taking 59 = .ok (.aload_n 0, 1) := by decide +kernel
theorem s237_59 {d : Nat} {st : List Value} {σ : am_I} {ρ : am_R} {g : am_J} {τ : am_T} {Q : am_Q} {x1 x2 x3 : Value} {v : Nat} : AW d 237 59 [.ref v, x1, x2, x3] (st) σ ρ g τ Q = AW d 237 60 [.ref v, x1, x2, x3] (.ref v :: st) σ ρ g τ Q := aw_lc m237 d237_59 rfl rfl rfl
theorem d237_60 : decode cX12_taking 60 = .ok (.getfield 121, 3) := by decide +kernel
theorem s237_60 {d : Nat} {st : List Value} {σ : am_I} {ρ : am_R} {g : am_J} {τ : am_T} {Q : am_Q} {x0 x1 x2 x3 : Value} {a : Nat} (ht : τ.1 a = 12) : AW d 237 60 [x0, x1, x2, x3] (.ref a :: st) σ ρ g τ Q = AW d 237 63 [x0, x1, x2, x3] (va_rf (ρ a 37) :: st) σ ρ g τ Q := aw_gr m237 d237_60 rfl rfl rfl ht
theorem d237_63 : decode cX12_taking 63 = .ok (.iload_n 3, 1) := by decide +kernel
theorem s237_63 {d : Nat} {st : List Value} {σ : am_I} {ρ : am_R} {g : am_J} {τ : am_T} {Q : am_Q} {x0 x1 x2 : Value} {v : Int32} : AW d 237 63 [x0, x1, x2, .int v] (st) σ ρ g τ Q = AW d 237 64 [x0, x1, x2, .int v] (.int v :: st) σ ρ g τ Q := aw_lc m237 d237_63 rfl rfl rfl
theorem d237_64 : decode cX12_taking 64 = .ok (.aload_n 0, 1) := by decide +kernel
theorem s237_64 {d : Nat} {st : List Value} {σ : am_I} {ρ : am_R} {g : am_J} {τ : am_T} {Q : am_Q} {x1 x2 x3 : Value} {v : Nat} : AW d 237 64 [.ref v, x1, x2, x3] (st) σ ρ g τ Q = AW d 237 65 [.ref v, x1, x2, x3] (.ref v :: st) σ ρ g τ Q := aw_lc m237 d237_64 rfl rfl rfl
theorem d237_65 : decode cX12_taking 65 = .ok (.getfield 9, 3) := by decide +kernel
theorem s237_65 {d : Nat} {st : List Value} {σ : am_I} {ρ : am_R} {g : am_J} {τ : am_T} {Q : am_Q} {x0 x1 x2 x3 : Value} {a : Nat} (ht : τ.1 a = 12) : AW d 237 65 [x0, x1, x2, x3] (.ref a :: st) σ ρ g τ Q = AW d 237 68 [x0, x1, x2, x3] (va_rf (ρ a 0) :: st) σ ρ g τ Q := aw_gr m237 d237_65 rfl rfl rfl ht
theorem d237_68 : decode cX12_taking 68 = .ok (.iconst 0, 1) := by decide +kernel
theorem s237_68 {d : Nat} {st : List Value} {σ : am_I} {ρ : am_R} {g : am_J} {τ : am_T} {Q : am_Q} {x0 x1 x2 x3 : Value} : AW d 237 68 [x0, x1, x2, x3] (st) σ ρ g τ Q = AW d 237 69 [x0, x1, x2, x3] (.int 0 :: st) σ ρ g τ Q := aw_lc m237 d237_68 rfl rfl rfl
theorem d237_69 : decode cX12_taking 69 = .ok (.iaload, 1) := by decide +kernel
theorem s237_69 {d : Nat} {st : List Value} {σ : am_I} {ρ : am_R} {g : am_J} {τ : am_T} {Q : am_Q} {x0 x1 x2 x3 : Value} {a : Nat} {j : Int32} (ht : τ.1 a = 15) (hj : am_inb j (τ.2.1 a) = true) : AW d 237 69 [x0, x1, x2, x3] (.int j :: .ref a :: st) σ ρ g τ Q = AW d 237 70 [x0, x1, x2, x3] (.int (σ a j.toNatClampNeg) :: st) σ ρ g τ Q := aw_ial m237 d237_69 rfl ht hj
theorem d237_70 : decode cX12_taking 70 = .ok (.iastore, 1) := by decide +kernel
theorem s237_70 {d : Nat} {st : List Value} {σ : am_I} {ρ : am_R} {g : am_J} {τ : am_T} {Q : am_Q} {x0 x1 x2 x3 : Value} {a : Nat} {j v : Int32} (ht : τ.1 a = 15) (ha : a < am_BG) (hj : am_inb j (τ.2.1 a) = true) : AW d 237 70 [x0, x1, x2, x3] (.int v :: .int j :: .ref a :: st) σ ρ g τ Q = AW d 237 71 [x0, x1, x2, x3] (st) (am_u σ a j.toNatClampNeg v) ρ g τ Q := aw_ias m237 d237_70 rfl ht ha hj
theorem d237_71 : decode cX12_taking 71 = .ok (.aload_n 0, 1) := by decide +kernel
theorem s237_71 {d : Nat} {st : List Value} {σ : am_I} {ρ : am_R} {g : am_J} {τ : am_T} {Q : am_Q} {x1 x2 x3 : Value} {v : Nat} : AW d 237 71 [.ref v, x1, x2, x3] (st) σ ρ g τ Q = AW d 237 72 [.ref v, x1, x2, x3] (.ref v :: st) σ ρ g τ Q := aw_lc m237 d237_71 rfl rfl rfl
theorem d237_72 : decode cX12_taking 72 = .ok (.getfield 9, 3) := by decide +kernel
theorem s237_72 {d : Nat} {st : List Value} {σ : am_I} {ρ : am_R} {g : am_J} {τ : am_T} {Q : am_Q} {x0 x1 x2 x3 : Value} {a : Nat} (ht : τ.1 a = 12) : AW d 237 72 [x0, x1, x2, x3] (.ref a :: st) σ ρ g τ Q = AW d 237 75 [x0, x1, x2, x3] (va_rf (ρ a 0) :: st) σ ρ g τ Q := aw_gr m237 d237_72 rfl rfl rfl ht
theorem d237_75 : decode cX12_taking 75 = .ok (.bipush 6, 2) := by decide +kernel
theorem s237_75 {d : Nat} {st : List Value} {σ : am_I} {ρ : am_R} {g : am_J} {τ : am_T} {Q : am_Q} {x0 x1 x2 x3 : Value} : AW d 237 75 [x0, x1, x2, x3] (st) σ ρ g τ Q = AW d 237 77 [x0, x1, x2, x3] (.int 6 :: st) σ ρ g τ Q := aw_lc m237 d237_75 rfl rfl rfl
theorem d237_77 : decode cX12_taking 77 = .ok (.dup2, 1) := by decide +kernel
theorem s237_77 {d : Nat} {st : List Value} {σ : am_I} {ρ : am_R} {g : am_J} {τ : am_T} {Q : am_Q} {x0 x1 x2 x3 : Value} {v : Int32} {w : Nat} : AW d 237 77 [x0, x1, x2, x3] (.int v :: .ref w :: st) σ ρ g τ Q = AW d 237 78 [x0, x1, x2, x3] (.int v :: .ref w :: .int v :: .ref w :: st) σ ρ g τ Q := aw_lc m237 d237_77 rfl rfl rfl
theorem d237_78 : decode cX12_taking 78 = .ok (.iaload, 1) := by decide +kernel
theorem s237_78 {d : Nat} {st : List Value} {σ : am_I} {ρ : am_R} {g : am_J} {τ : am_T} {Q : am_Q} {x0 x1 x2 x3 : Value} {a : Nat} {j : Int32} (ht : τ.1 a = 15) (hj : am_inb j (τ.2.1 a) = true) : AW d 237 78 [x0, x1, x2, x3] (.int j :: .ref a :: st) σ ρ g τ Q = AW d 237 79 [x0, x1, x2, x3] (.int (σ a j.toNatClampNeg) :: st) σ ρ g τ Q := aw_ial m237 d237_78 rfl ht hj
theorem d237_79 : decode cX12_taking 79 = .ok (.iconst 1, 1) := by decide +kernel
theorem s237_79 {d : Nat} {st : List Value} {σ : am_I} {ρ : am_R} {g : am_J} {τ : am_T} {Q : am_Q} {x0 x1 x2 x3 : Value} : AW d 237 79 [x0, x1, x2, x3] (st) σ ρ g τ Q = AW d 237 80 [x0, x1, x2, x3] (.int 1 :: st) σ ρ g τ Q := aw_lc m237 d237_79 rfl rfl rfl
theorem d237_80 : decode cX12_taking 80 = .ok (.iadd, 1) := by decide +kernel
theorem s237_80 {d : Nat} {st : List Value} {σ : am_I} {ρ : am_R} {g : am_J} {τ : am_T} {Q : am_Q} {x0 x1 x2 x3 : Value} {v w : Int32} : AW d 237 80 [x0, x1, x2, x3] (.int w :: .int v :: st) σ ρ g τ Q = AW d 237 81 [x0, x1, x2, x3] (.int (v + w) :: st) σ ρ g τ Q := aw_lc m237 d237_80 rfl rfl rfl
theorem d237_81 : decode cX12_taking 81 = .ok (.iastore, 1) := by decide +kernel
theorem s237_81 {d : Nat} {st : List Value} {σ : am_I} {ρ : am_R} {g : am_J} {τ : am_T} {Q : am_Q} {x0 x1 x2 x3 : Value} {a : Nat} {j v : Int32} (ht : τ.1 a = 15) (ha : a < am_BG) (hj : am_inb j (τ.2.1 a) = true) : AW d 237 81 [x0, x1, x2, x3] (.int v :: .int j :: .ref a :: st) σ ρ g τ Q = AW d 237 82 [x0, x1, x2, x3] (st) (am_u σ a j.toNatClampNeg v) ρ g τ Q := aw_ias m237 d237_81 rfl ht ha hj
theorem d237_82 : decode cX12_taking 82 = .ok (.iload_n 3, 1) := by decide +kernel
theorem s237_82 {d : Nat} {st : List Value} {σ : am_I} {ρ : am_R} {g : am_J} {τ : am_T} {Q : am_Q} {x0 x1 x2 : Value} {v : Int32} : AW d 237 82 [x0, x1, x2, .int v] (st) σ ρ g τ Q = AW d 237 83 [x0, x1, x2, .int v] (.int v :: st) σ ρ g τ Q := aw_lc m237 d237_82 rfl rfl rfl
theorem d237_83 : decode cX12_taking 83 = .ok (.ireturn, 1) := by decide +kernel
theorem s237_83 {d : Nat} {σ : am_I} {ρ : am_R} {g : am_J} {τ : am_T} {Q : am_Q} {x0 x1 x2 x3 : Value} {v : Int32} : AW d 237 83 [x0, x1, x2, x3] ([.int v]) σ ρ g τ Q = Q (some (.int v)) σ ρ g τ := aw_ri m237 d237_83 rfl
theorem d238_0 : decode cX12_upTo 0 = .ok (.iconst 0, 1) := by decide +kernel
theorem s238_0 {d : Nat} {st : List Value} {σ : am_I} {ρ : am_R} {g : am_J} {τ : am_T} {Q : am_Q} {x0 x1 x2 x3 : Value} : AW d 238 0 [x0, x1, x2, x3] (st) σ ρ g τ Q = AW d 238 1 [x0, x1, x2, x3] (.int 0 :: st) σ ρ g τ Q := aw_lc m238 d238_0 rfl rfl rfl
theorem d238_1 : decode cX12_upTo 1 = .ok (.istore_n 2, 1) := by decide +kernel
theorem s238_1 {d : Nat} {st : List Value} {σ : am_I} {ρ : am_R} {g : am_J} {τ : am_T} {Q : am_Q} {x0 x2 x3 : Value} {v : Int32} {u : Int32} : AW d 238 1 [x0, .int u, x2, x3] (.int v :: st) σ ρ g τ Q = AW d 238 2 [x0, .int u, .int v, x3] (st) σ ρ g τ Q := aw_lc m238 d238_1 rfl rfl rfl
theorem d238_2 : decode cX12_upTo 2 = .ok (.iconst 0, 1) := by decide +kernel
theorem s238_2 {d : Nat} {st : List Value} {σ : am_I} {ρ : am_R} {g : am_J} {τ : am_T} {Q : am_Q} {x0 x1 x2 x3 : Value} : AW d 238 2 [x0, x1, x2, x3] (st) σ ρ g τ Q = AW d 238 3 [x0, x1, x2, x3] (.int 0 :: st) σ ρ g τ Q := aw_lc m238 d238_2 rfl rfl rfl
theorem d238_3 : decode cX12_upTo 3 = .ok (.istore_n 3, 1) := by decide +kernel
theorem s238_3 {d : Nat} {st : List Value} {σ : am_I} {ρ : am_R} {g : am_J} {τ : am_T} {Q : am_Q} {x0 x1 x3 : Value} {v : Int32} {u : Int32} : AW d 238 3 [x0, x1, .int u, x3] (.int v :: st) σ ρ g τ Q = AW d 238 4 [x0, x1, .int u, .int v] (st) σ ρ g τ Q := aw_lc m238 d238_3 rfl rfl rfl
theorem d238_4 : decode cX12_upTo 4 = .ok (.iload_n 3, 1) := by decide +kernel
theorem s238_4 {d : Nat} {st : List Value} {σ : am_I} {ρ : am_R} {g : am_J} {τ : am_T} {Q : am_Q} {x0 x1 x2 : Value} {v : Int32} : AW d 238 4 [x0, x1, x2, .int v] (st) σ ρ g τ Q = AW d 238 5 [x0, x1, x2, .int v] (.int v :: st) σ ρ g τ Q := aw_lc m238 d238_4 rfl rfl rfl
theorem d238_5 : decode cX12_upTo 5 = .ok (.iload_n 1, 1) := by decide +kernel
theorem s238_5 {d : Nat} {st : List Value} {σ : am_I} {ρ : am_R} {g : am_J} {τ : am_T} {Q : am_Q} {x0 x2 x3 : Value} {v : Int32} : AW d 238 5 [x0, .int v, x2, x3] (st) σ ρ g τ Q = AW d 238 6 [x0, .int v, x2, x3] (.int v :: st) σ ρ g τ Q := aw_lc m238 d238_5 rfl rfl rfl
theorem d238_6 : decode cX12_upTo 6 = .ok (.if_icmp .gt 48, 3) := by decide +kernel
theorem s238_6 {d : Nat} {st : List Value} {σ : am_I} {ρ : am_R} {g : am_J} {τ : am_T} {Q : am_Q} {x0 x1 x2 x3 : Value} {v w : Int32} : AW d 238 6 [x0, x1, x2, x3] (.int w :: .int v :: st) σ ρ g τ Q = if w < v then AW d 238 54 [x0, x1, x2, x3] (st) σ ρ g τ Q else AW d 238 9 [x0, x1, x2, x3] (st) σ ρ g τ Q := aw_br m238 d238_6 rfl rfl rfl
theorem d238_9 : decode cX12_upTo 9 = .ok (.aload_n 0, 1) := by decide +kernel
theorem s238_9 {d : Nat} {st : List Value} {σ : am_I} {ρ : am_R} {g : am_J} {τ : am_T} {Q : am_Q} {x1 x2 x3 : Value} {v : Nat} : AW d 238 9 [.ref v, x1, x2, x3] (st) σ ρ g τ Q = AW d 238 10 [.ref v, x1, x2, x3] (.ref v :: st) σ ρ g τ Q := aw_lc m238 d238_9 rfl rfl rfl
theorem d238_10 : decode cX12_upTo 10 = .ok (.getfield 115, 3) := by decide +kernel
theorem s238_10 {d : Nat} {st : List Value} {σ : am_I} {ρ : am_R} {g : am_J} {τ : am_T} {Q : am_Q} {x0 x1 x2 x3 : Value} {a : Nat} (ht : τ.1 a = 12) : AW d 238 10 [x0, x1, x2, x3] (.ref a :: st) σ ρ g τ Q = AW d 238 13 [x0, x1, x2, x3] (va_rf (ρ a 35) :: st) σ ρ g τ Q := aw_gr m238 d238_10 rfl rfl rfl ht
theorem d238_13 : decode cX12_upTo 13 = .ok (.iload_n 3, 1) := by decide +kernel
theorem s238_13 {d : Nat} {st : List Value} {σ : am_I} {ρ : am_R} {g : am_J} {τ : am_T} {Q : am_Q} {x0 x1 x2 : Value} {v : Int32} : AW d 238 13 [x0, x1, x2, .int v] (st) σ ρ g τ Q = AW d 238 14 [x0, x1, x2, .int v] (.int v :: st) σ ρ g τ Q := aw_lc m238 d238_13 rfl rfl rfl
theorem d238_14 : decode cX12_upTo 14 = .ok (.iaload, 1) := by decide +kernel
theorem s238_14 {d : Nat} {st : List Value} {σ : am_I} {ρ : am_R} {g : am_J} {τ : am_T} {Q : am_Q} {x0 x1 x2 x3 : Value} {a : Nat} {j : Int32} (ht : τ.1 a = 15) (hj : am_inb j (τ.2.1 a) = true) : AW d 238 14 [x0, x1, x2, x3] (.int j :: .ref a :: st) σ ρ g τ Q = AW d 238 15 [x0, x1, x2, x3] (.int (σ a j.toNatClampNeg) :: st) σ ρ g τ Q := aw_ial m238 d238_14 rfl ht hj
theorem d238_15 : decode cX12_upTo 15 = .ok (.aload_n 0, 1) := by decide +kernel
theorem s238_15 {d : Nat} {st : List Value} {σ : am_I} {ρ : am_R} {g : am_J} {τ : am_T} {Q : am_Q} {x1 x2 x3 : Value} {v : Nat} : AW d 238 15 [.ref v, x1, x2, x3] (st) σ ρ g τ Q = AW d 238 16 [.ref v, x1, x2, x3] (.ref v :: st) σ ρ g τ Q := aw_lc m238 d238_15 rfl rfl rfl
theorem d238_16 : decode cX12_upTo 16 = .ok (.getfield 115, 3) := by decide +kernel
theorem s238_16 {d : Nat} {st : List Value} {σ : am_I} {ρ : am_R} {g : am_J} {τ : am_T} {Q : am_Q} {x0 x1 x2 x3 : Value} {a : Nat} (ht : τ.1 a = 12) : AW d 238 16 [x0, x1, x2, x3] (.ref a :: st) σ ρ g τ Q = AW d 238 19 [x0, x1, x2, x3] (va_rf (ρ a 35) :: st) σ ρ g τ Q := aw_gr m238 d238_16 rfl rfl rfl ht
theorem d238_19 : decode cX12_upTo 19 = .ok (.iload_n 1, 1) := by decide +kernel
theorem s238_19 {d : Nat} {st : List Value} {σ : am_I} {ρ : am_R} {g : am_J} {τ : am_T} {Q : am_Q} {x0 x2 x3 : Value} {v : Int32} : AW d 238 19 [x0, .int v, x2, x3] (st) σ ρ g τ Q = AW d 238 20 [x0, .int v, x2, x3] (.int v :: st) σ ρ g τ Q := aw_lc m238 d238_19 rfl rfl rfl
theorem d238_20 : decode cX12_upTo 20 = .ok (.iaload, 1) := by decide +kernel
theorem s238_20 {d : Nat} {st : List Value} {σ : am_I} {ρ : am_R} {g : am_J} {τ : am_T} {Q : am_Q} {x0 x1 x2 x3 : Value} {a : Nat} {j : Int32} (ht : τ.1 a = 15) (hj : am_inb j (τ.2.1 a) = true) : AW d 238 20 [x0, x1, x2, x3] (.int j :: .ref a :: st) σ ρ g τ Q = AW d 238 21 [x0, x1, x2, x3] (.int (σ a j.toNatClampNeg) :: st) σ ρ g τ Q := aw_ial m238 d238_20 rfl ht hj
theorem d238_21 : decode cX12_upTo 21 = .ok (.if_icmp .ne 27, 3) := by decide +kernel
theorem s238_21 {d : Nat} {st : List Value} {σ : am_I} {ρ : am_R} {g : am_J} {τ : am_T} {Q : am_Q} {x0 x1 x2 x3 : Value} {v w : Int32} : AW d 238 21 [x0, x1, x2, x3] (.int w :: .int v :: st) σ ρ g τ Q = if ¬ v = w then AW d 238 48 [x0, x1, x2, x3] (st) σ ρ g τ Q else AW d 238 24 [x0, x1, x2, x3] (st) σ ρ g τ Q := aw_br m238 d238_21 rfl rfl rfl
theorem d238_24 : decode cX12_upTo 24 = .ok (.aload_n 0, 1) := by decide +kernel
theorem s238_24 {d : Nat} {st : List Value} {σ : am_I} {ρ : am_R} {g : am_J} {τ : am_T} {Q : am_Q} {x1 x2 x3 : Value} {v : Nat} : AW d 238 24 [.ref v, x1, x2, x3] (st) σ ρ g τ Q = AW d 238 25 [.ref v, x1, x2, x3] (.ref v :: st) σ ρ g τ Q := aw_lc m238 d238_24 rfl rfl rfl
theorem d238_25 : decode cX12_upTo 25 = .ok (.getfield 121, 3) := by decide +kernel
theorem s238_25 {d : Nat} {st : List Value} {σ : am_I} {ρ : am_R} {g : am_J} {τ : am_T} {Q : am_Q} {x0 x1 x2 x3 : Value} {a : Nat} (ht : τ.1 a = 12) : AW d 238 25 [x0, x1, x2, x3] (.ref a :: st) σ ρ g τ Q = AW d 238 28 [x0, x1, x2, x3] (va_rf (ρ a 37) :: st) σ ρ g τ Q := aw_gr m238 d238_25 rfl rfl rfl ht
theorem d238_28 : decode cX12_upTo 28 = .ok (.iload_n 3, 1) := by decide +kernel
theorem s238_28 {d : Nat} {st : List Value} {σ : am_I} {ρ : am_R} {g : am_J} {τ : am_T} {Q : am_Q} {x0 x1 x2 : Value} {v : Int32} : AW d 238 28 [x0, x1, x2, .int v] (st) σ ρ g τ Q = AW d 238 29 [x0, x1, x2, .int v] (.int v :: st) σ ρ g τ Q := aw_lc m238 d238_28 rfl rfl rfl
theorem d238_29 : decode cX12_upTo 29 = .ok (.iaload, 1) := by decide +kernel
theorem s238_29 {d : Nat} {st : List Value} {σ : am_I} {ρ : am_R} {g : am_J} {τ : am_T} {Q : am_Q} {x0 x1 x2 x3 : Value} {a : Nat} {j : Int32} (ht : τ.1 a = 15) (hj : am_inb j (τ.2.1 a) = true) : AW d 238 29 [x0, x1, x2, x3] (.int j :: .ref a :: st) σ ρ g τ Q = AW d 238 30 [x0, x1, x2, x3] (.int (σ a j.toNatClampNeg) :: st) σ ρ g τ Q := aw_ial m238 d238_29 rfl ht hj
theorem d238_30 : decode cX12_upTo 30 = .ok (.aload_n 0, 1) := by decide +kernel
theorem s238_30 {d : Nat} {st : List Value} {σ : am_I} {ρ : am_R} {g : am_J} {τ : am_T} {Q : am_Q} {x1 x2 x3 : Value} {v : Nat} : AW d 238 30 [.ref v, x1, x2, x3] (st) σ ρ g τ Q = AW d 238 31 [.ref v, x1, x2, x3] (.ref v :: st) σ ρ g τ Q := aw_lc m238 d238_30 rfl rfl rfl
theorem d238_31 : decode cX12_upTo 31 = .ok (.getfield 121, 3) := by decide +kernel
theorem s238_31 {d : Nat} {st : List Value} {σ : am_I} {ρ : am_R} {g : am_J} {τ : am_T} {Q : am_Q} {x0 x1 x2 x3 : Value} {a : Nat} (ht : τ.1 a = 12) : AW d 238 31 [x0, x1, x2, x3] (.ref a :: st) σ ρ g τ Q = AW d 238 34 [x0, x1, x2, x3] (va_rf (ρ a 37) :: st) σ ρ g τ Q := aw_gr m238 d238_31 rfl rfl rfl ht
theorem d238_34 : decode cX12_upTo 34 = .ok (.iload_n 1, 1) := by decide +kernel
theorem s238_34 {d : Nat} {st : List Value} {σ : am_I} {ρ : am_R} {g : am_J} {τ : am_T} {Q : am_Q} {x0 x2 x3 : Value} {v : Int32} : AW d 238 34 [x0, .int v, x2, x3] (st) σ ρ g τ Q = AW d 238 35 [x0, .int v, x2, x3] (.int v :: st) σ ρ g τ Q := aw_lc m238 d238_34 rfl rfl rfl
theorem d238_35 : decode cX12_upTo 35 = .ok (.iaload, 1) := by decide +kernel
theorem s238_35 {d : Nat} {st : List Value} {σ : am_I} {ρ : am_R} {g : am_J} {τ : am_T} {Q : am_Q} {x0 x1 x2 x3 : Value} {a : Nat} {j : Int32} (ht : τ.1 a = 15) (hj : am_inb j (τ.2.1 a) = true) : AW d 238 35 [x0, x1, x2, x3] (.int j :: .ref a :: st) σ ρ g τ Q = AW d 238 36 [x0, x1, x2, x3] (.int (σ a j.toNatClampNeg) :: st) σ ρ g τ Q := aw_ial m238 d238_35 rfl ht hj
theorem d238_36 : decode cX12_upTo 36 = .ok (.if_icmp .ne 12, 3) := by decide +kernel
theorem s238_36 {d : Nat} {st : List Value} {σ : am_I} {ρ : am_R} {g : am_J} {τ : am_T} {Q : am_Q} {x0 x1 x2 x3 : Value} {v w : Int32} : AW d 238 36 [x0, x1, x2, x3] (.int w :: .int v :: st) σ ρ g τ Q = if ¬ v = w then AW d 238 48 [x0, x1, x2, x3] (st) σ ρ g τ Q else AW d 238 39 [x0, x1, x2, x3] (st) σ ρ g τ Q := aw_br m238 d238_36 rfl rfl rfl
theorem d238_39 : decode cX12_upTo 39 = .ok (.iload_n 2, 1) := by decide +kernel
theorem s238_39 {d : Nat} {st : List Value} {σ : am_I} {ρ : am_R} {g : am_J} {τ : am_T} {Q : am_Q} {x0 x1 x3 : Value} {v : Int32} : AW d 238 39 [x0, x1, .int v, x3] (st) σ ρ g τ Q = AW d 238 40 [x0, x1, .int v, x3] (.int v :: st) σ ρ g τ Q := aw_lc m238 d238_39 rfl rfl rfl
theorem d238_40 : decode cX12_upTo 40 = .ok (.aload_n 0, 1) := by decide +kernel
theorem s238_40 {d : Nat} {st : List Value} {σ : am_I} {ρ : am_R} {g : am_J} {τ : am_T} {Q : am_Q} {x1 x2 x3 : Value} {v : Nat} : AW d 238 40 [.ref v, x1, x2, x3] (st) σ ρ g τ Q = AW d 238 41 [.ref v, x1, x2, x3] (.ref v :: st) σ ρ g τ Q := aw_lc m238 d238_40 rfl rfl rfl
theorem d238_41 : decode cX12_upTo 41 = .ok (.getfield 118, 3) := by decide +kernel
theorem s238_41 {d : Nat} {st : List Value} {σ : am_I} {ρ : am_R} {g : am_J} {τ : am_T} {Q : am_Q} {x0 x1 x2 x3 : Value} {a : Nat} (ht : τ.1 a = 12) : AW d 238 41 [x0, x1, x2, x3] (.ref a :: st) σ ρ g τ Q = AW d 238 44 [x0, x1, x2, x3] (va_rf (ρ a 36) :: st) σ ρ g τ Q := aw_gr m238 d238_41 rfl rfl rfl ht
theorem d238_44 : decode cX12_upTo 44 = .ok (.iload_n 3, 1) := by decide +kernel
theorem s238_44 {d : Nat} {st : List Value} {σ : am_I} {ρ : am_R} {g : am_J} {τ : am_T} {Q : am_Q} {x0 x1 x2 : Value} {v : Int32} : AW d 238 44 [x0, x1, x2, .int v] (st) σ ρ g τ Q = AW d 238 45 [x0, x1, x2, .int v] (.int v :: st) σ ρ g τ Q := aw_lc m238 d238_44 rfl rfl rfl
theorem d238_45 : decode cX12_upTo 45 = .ok (.iaload, 1) := by decide +kernel
theorem s238_45 {d : Nat} {st : List Value} {σ : am_I} {ρ : am_R} {g : am_J} {τ : am_T} {Q : am_Q} {x0 x1 x2 x3 : Value} {a : Nat} {j : Int32} (ht : τ.1 a = 15) (hj : am_inb j (τ.2.1 a) = true) : AW d 238 45 [x0, x1, x2, x3] (.int j :: .ref a :: st) σ ρ g τ Q = AW d 238 46 [x0, x1, x2, x3] (.int (σ a j.toNatClampNeg) :: st) σ ρ g τ Q := aw_ial m238 d238_45 rfl ht hj
theorem d238_46 : decode cX12_upTo 46 = .ok (.iadd, 1) := by decide +kernel
theorem s238_46 {d : Nat} {st : List Value} {σ : am_I} {ρ : am_R} {g : am_J} {τ : am_T} {Q : am_Q} {x0 x1 x2 x3 : Value} {v w : Int32} : AW d 238 46 [x0, x1, x2, x3] (.int w :: .int v :: st) σ ρ g τ Q = AW d 238 47 [x0, x1, x2, x3] (.int (v + w) :: st) σ ρ g τ Q := aw_lc m238 d238_46 rfl rfl rfl
theorem d238_47 : decode cX12_upTo 47 = .ok (.istore_n 2, 1) := by decide +kernel
theorem s238_47 {d : Nat} {st : List Value} {σ : am_I} {ρ : am_R} {g : am_J} {τ : am_T} {Q : am_Q} {x0 x2 x3 : Value} {v : Int32} {u : Int32} : AW d 238 47 [x0, .int u, x2, x3] (.int v :: st) σ ρ g τ Q = AW d 238 48 [x0, .int u, .int v, x3] (st) σ ρ g τ Q := aw_lc m238 d238_47 rfl rfl rfl
theorem d238_48 : decode cX12_upTo 48 = .ok (.iinc 3 1, 3) := by decide +kernel
theorem s238_48 {d : Nat} {st : List Value} {σ : am_I} {ρ : am_R} {g : am_J} {τ : am_T} {Q : am_Q} {x0 x1 : Value} {v : Int32} {u : Int32} : AW d 238 48 [x0, x1, .int u, .int v] (st) σ ρ g τ Q = AW d 238 51 [x0, x1, .int u, .int (v + 1)] (st) σ ρ g τ Q := aw_lc m238 d238_48 rfl rfl rfl
theorem d238_51 : decode cX12_upTo 51 = .ok (.goto (-47), 3) := by decide +kernel
theorem s238_51 {d : Nat} {st : List Value} {σ : am_I} {ρ : am_R} {g : am_J} {τ : am_T} {Q : am_Q} {x0 x1 x2 x3 : Value} : AW d 238 51 [x0, x1, x2, x3] (st) σ ρ g τ Q = AW d 238 4 [x0, x1, x2, x3] (st) σ ρ g τ Q := aw_lc m238 d238_51 rfl rfl rfl
theorem d238_54 : decode cX12_upTo 54 = .ok (.iload_n 2, 1) := by decide +kernel
theorem s238_54 {d : Nat} {st : List Value} {σ : am_I} {ρ : am_R} {g : am_J} {τ : am_T} {Q : am_Q} {x0 x1 x3 : Value} {v : Int32} : AW d 238 54 [x0, x1, .int v, x3] (st) σ ρ g τ Q = AW d 238 55 [x0, x1, .int v, x3] (.int v :: st) σ ρ g τ Q := aw_lc m238 d238_54 rfl rfl rfl
theorem d238_55 : decode cX12_upTo 55 = .ok (.ireturn, 1) := by decide +kernel
theorem s238_55 {d : Nat} {σ : am_I} {ρ : am_R} {g : am_J} {τ : am_T} {Q : am_Q} {x0 x1 x2 x3 : Value} {v : Int32} : AW d 238 55 [x0, x1, x2, x3] ([.int v]) σ ρ g τ Q = Q (some (.int v)) σ ρ g τ := aw_ri m238 d238_55 rfl
theorem d239_0 : decode cX12_isLast 0 = .ok (.iload_n 1, 1) := by decide +kernel
theorem s239_0 {d : Nat} {st : List Value} {σ : am_I} {ρ : am_R} {g : am_J} {τ : am_T} {Q : am_Q} {x0 x2 : Value} {v : Int32} : AW d 239 0 [x0, .int v, x2] (st) σ ρ g τ Q = AW d 239 1 [x0, .int v, x2] (.int v :: st) σ ρ g τ Q := aw_lc m239 d239_0 rfl rfl rfl
theorem d239_1 : decode cX12_isLast 1 = .ok (.iconst 1, 1) := by decide +kernel
theorem s239_1 {d : Nat} {st : List Value} {σ : am_I} {ρ : am_R} {g : am_J} {τ : am_T} {Q : am_Q} {x0 x1 x2 : Value} : AW d 239 1 [x0, x1, x2] (st) σ ρ g τ Q = AW d 239 2 [x0, x1, x2] (.int 1 :: st) σ ρ g τ Q := aw_lc m239 d239_1 rfl rfl rfl
theorem d239_2 : decode cX12_isLast 2 = .ok (.iadd, 1) := by decide +kernel
theorem s239_2 {d : Nat} {st : List Value} {σ : am_I} {ρ : am_R} {g : am_J} {τ : am_T} {Q : am_Q} {x0 x1 x2 : Value} {v w : Int32} : AW d 239 2 [x0, x1, x2] (.int w :: .int v :: st) σ ρ g τ Q = AW d 239 3 [x0, x1, x2] (.int (v + w) :: st) σ ρ g τ Q := aw_lc m239 d239_2 rfl rfl rfl
theorem d239_3 : decode cX12_isLast 3 = .ok (.istore_n 2, 1) := by decide +kernel
theorem s239_3 {d : Nat} {st : List Value} {σ : am_I} {ρ : am_R} {g : am_J} {τ : am_T} {Q : am_Q} {x0 x2 : Value} {v : Int32} {u : Int32} : AW d 239 3 [x0, .int u, x2] (.int v :: st) σ ρ g τ Q = AW d 239 4 [x0, .int u, .int v] (st) σ ρ g τ Q := aw_lc m239 d239_3 rfl rfl rfl
theorem d239_4 : decode cX12_isLast 4 = .ok (.iload_n 2, 1) := by decide +kernel
theorem s239_4 {d : Nat} {st : List Value} {σ : am_I} {ρ : am_R} {g : am_J} {τ : am_T} {Q : am_Q} {x0 x1 : Value} {v : Int32} : AW d 239 4 [x0, x1, .int v] (st) σ ρ g τ Q = AW d 239 5 [x0, x1, .int v] (.int v :: st) σ ρ g τ Q := aw_lc m239 d239_4 rfl rfl rfl
theorem d239_5 : decode cX12_isLast 5 = .ok (.aload_n 0, 1) := by decide +kernel
theorem s239_5 {d : Nat} {st : List Value} {σ : am_I} {ρ : am_R} {g : am_J} {τ : am_T} {Q : am_Q} {x1 x2 : Value} {v : Nat} : AW d 239 5 [.ref v, x1, x2] (st) σ ρ g τ Q = AW d 239 6 [.ref v, x1, x2] (.ref v :: st) σ ρ g τ Q := aw_lc m239 d239_5 rfl rfl rfl
theorem d239_6 : decode cX12_isLast 6 = .ok (.getfield 9, 3) := by decide +kernel
theorem s239_6 {d : Nat} {st : List Value} {σ : am_I} {ρ : am_R} {g : am_J} {τ : am_T} {Q : am_Q} {x0 x1 x2 : Value} {a : Nat} (ht : τ.1 a = 12) : AW d 239 6 [x0, x1, x2] (.ref a :: st) σ ρ g τ Q = AW d 239 9 [x0, x1, x2] (va_rf (ρ a 0) :: st) σ ρ g τ Q := aw_gr m239 d239_6 rfl rfl rfl ht
theorem d239_9 : decode cX12_isLast 9 = .ok (.bipush 6, 2) := by decide +kernel
theorem s239_9 {d : Nat} {st : List Value} {σ : am_I} {ρ : am_R} {g : am_J} {τ : am_T} {Q : am_Q} {x0 x1 x2 : Value} : AW d 239 9 [x0, x1, x2] (st) σ ρ g τ Q = AW d 239 11 [x0, x1, x2] (.int 6 :: st) σ ρ g τ Q := aw_lc m239 d239_9 rfl rfl rfl
theorem d239_11 : decode cX12_isLast 11 = .ok (.iaload, 1) := by decide +kernel
theorem s239_11 {d : Nat} {st : List Value} {σ : am_I} {ρ : am_R} {g : am_J} {τ : am_T} {Q : am_Q} {x0 x1 x2 : Value} {a : Nat} {j : Int32} (ht : τ.1 a = 15) (hj : am_inb j (τ.2.1 a) = true) : AW d 239 11 [x0, x1, x2] (.int j :: .ref a :: st) σ ρ g τ Q = AW d 239 12 [x0, x1, x2] (.int (σ a j.toNatClampNeg) :: st) σ ρ g τ Q := aw_ial m239 d239_11 rfl ht hj
theorem d239_12 : decode cX12_isLast 12 = .ok (.if_icmp .ge 41, 3) := by decide +kernel
theorem s239_12 {d : Nat} {st : List Value} {σ : am_I} {ρ : am_R} {g : am_J} {τ : am_T} {Q : am_Q} {x0 x1 x2 : Value} {v w : Int32} : AW d 239 12 [x0, x1, x2] (.int w :: .int v :: st) σ ρ g τ Q = if w ≤ v then AW d 239 53 [x0, x1, x2] (st) σ ρ g τ Q else AW d 239 15 [x0, x1, x2] (st) σ ρ g τ Q := aw_br m239 d239_12 rfl rfl rfl
theorem d239_15 : decode cX12_isLast 15 = .ok (.aload_n 0, 1) := by decide +kernel
theorem s239_15 {d : Nat} {st : List Value} {σ : am_I} {ρ : am_R} {g : am_J} {τ : am_T} {Q : am_Q} {x1 x2 : Value} {v : Nat} : AW d 239 15 [.ref v, x1, x2] (st) σ ρ g τ Q = AW d 239 16 [.ref v, x1, x2] (.ref v :: st) σ ρ g τ Q := aw_lc m239 d239_15 rfl rfl rfl
theorem d239_16 : decode cX12_isLast 16 = .ok (.getfield 115, 3) := by decide +kernel
theorem s239_16 {d : Nat} {st : List Value} {σ : am_I} {ρ : am_R} {g : am_J} {τ : am_T} {Q : am_Q} {x0 x1 x2 : Value} {a : Nat} (ht : τ.1 a = 12) : AW d 239 16 [x0, x1, x2] (.ref a :: st) σ ρ g τ Q = AW d 239 19 [x0, x1, x2] (va_rf (ρ a 35) :: st) σ ρ g τ Q := aw_gr m239 d239_16 rfl rfl rfl ht
theorem d239_19 : decode cX12_isLast 19 = .ok (.iload_n 2, 1) := by decide +kernel
theorem s239_19 {d : Nat} {st : List Value} {σ : am_I} {ρ : am_R} {g : am_J} {τ : am_T} {Q : am_Q} {x0 x1 : Value} {v : Int32} : AW d 239 19 [x0, x1, .int v] (st) σ ρ g τ Q = AW d 239 20 [x0, x1, .int v] (.int v :: st) σ ρ g τ Q := aw_lc m239 d239_19 rfl rfl rfl
theorem d239_20 : decode cX12_isLast 20 = .ok (.iaload, 1) := by decide +kernel
theorem s239_20 {d : Nat} {st : List Value} {σ : am_I} {ρ : am_R} {g : am_J} {τ : am_T} {Q : am_Q} {x0 x1 x2 : Value} {a : Nat} {j : Int32} (ht : τ.1 a = 15) (hj : am_inb j (τ.2.1 a) = true) : AW d 239 20 [x0, x1, x2] (.int j :: .ref a :: st) σ ρ g τ Q = AW d 239 21 [x0, x1, x2] (.int (σ a j.toNatClampNeg) :: st) σ ρ g τ Q := aw_ial m239 d239_20 rfl ht hj
theorem d239_21 : decode cX12_isLast 21 = .ok (.aload_n 0, 1) := by decide +kernel
theorem s239_21 {d : Nat} {st : List Value} {σ : am_I} {ρ : am_R} {g : am_J} {τ : am_T} {Q : am_Q} {x1 x2 : Value} {v : Nat} : AW d 239 21 [.ref v, x1, x2] (st) σ ρ g τ Q = AW d 239 22 [.ref v, x1, x2] (.ref v :: st) σ ρ g τ Q := aw_lc m239 d239_21 rfl rfl rfl
theorem d239_22 : decode cX12_isLast 22 = .ok (.getfield 115, 3) := by decide +kernel
theorem s239_22 {d : Nat} {st : List Value} {σ : am_I} {ρ : am_R} {g : am_J} {τ : am_T} {Q : am_Q} {x0 x1 x2 : Value} {a : Nat} (ht : τ.1 a = 12) : AW d 239 22 [x0, x1, x2] (.ref a :: st) σ ρ g τ Q = AW d 239 25 [x0, x1, x2] (va_rf (ρ a 35) :: st) σ ρ g τ Q := aw_gr m239 d239_22 rfl rfl rfl ht
theorem d239_25 : decode cX12_isLast 25 = .ok (.iload_n 1, 1) := by decide +kernel
theorem s239_25 {d : Nat} {st : List Value} {σ : am_I} {ρ : am_R} {g : am_J} {τ : am_T} {Q : am_Q} {x0 x2 : Value} {v : Int32} : AW d 239 25 [x0, .int v, x2] (st) σ ρ g τ Q = AW d 239 26 [x0, .int v, x2] (.int v :: st) σ ρ g τ Q := aw_lc m239 d239_25 rfl rfl rfl
theorem d239_26 : decode cX12_isLast 26 = .ok (.iaload, 1) := by decide +kernel
theorem s239_26 {d : Nat} {st : List Value} {σ : am_I} {ρ : am_R} {g : am_J} {τ : am_T} {Q : am_Q} {x0 x1 x2 : Value} {a : Nat} {j : Int32} (ht : τ.1 a = 15) (hj : am_inb j (τ.2.1 a) = true) : AW d 239 26 [x0, x1, x2] (.int j :: .ref a :: st) σ ρ g τ Q = AW d 239 27 [x0, x1, x2] (.int (σ a j.toNatClampNeg) :: st) σ ρ g τ Q := aw_ial m239 d239_26 rfl ht hj
theorem d239_27 : decode cX12_isLast 27 = .ok (.if_icmp .ne 20, 3) := by decide +kernel
theorem s239_27 {d : Nat} {st : List Value} {σ : am_I} {ρ : am_R} {g : am_J} {τ : am_T} {Q : am_Q} {x0 x1 x2 : Value} {v w : Int32} : AW d 239 27 [x0, x1, x2] (.int w :: .int v :: st) σ ρ g τ Q = if ¬ v = w then AW d 239 47 [x0, x1, x2] (st) σ ρ g τ Q else AW d 239 30 [x0, x1, x2] (st) σ ρ g τ Q := aw_br m239 d239_27 rfl rfl rfl
theorem d239_30 : decode cX12_isLast 30 = .ok (.aload_n 0, 1) := by decide +kernel
theorem s239_30 {d : Nat} {st : List Value} {σ : am_I} {ρ : am_R} {g : am_J} {τ : am_T} {Q : am_Q} {x1 x2 : Value} {v : Nat} : AW d 239 30 [.ref v, x1, x2] (st) σ ρ g τ Q = AW d 239 31 [.ref v, x1, x2] (.ref v :: st) σ ρ g τ Q := aw_lc m239 d239_30 rfl rfl rfl
theorem d239_31 : decode cX12_isLast 31 = .ok (.getfield 121, 3) := by decide +kernel
theorem s239_31 {d : Nat} {st : List Value} {σ : am_I} {ρ : am_R} {g : am_J} {τ : am_T} {Q : am_Q} {x0 x1 x2 : Value} {a : Nat} (ht : τ.1 a = 12) : AW d 239 31 [x0, x1, x2] (.ref a :: st) σ ρ g τ Q = AW d 239 34 [x0, x1, x2] (va_rf (ρ a 37) :: st) σ ρ g τ Q := aw_gr m239 d239_31 rfl rfl rfl ht
theorem d239_34 : decode cX12_isLast 34 = .ok (.iload_n 2, 1) := by decide +kernel
theorem s239_34 {d : Nat} {st : List Value} {σ : am_I} {ρ : am_R} {g : am_J} {τ : am_T} {Q : am_Q} {x0 x1 : Value} {v : Int32} : AW d 239 34 [x0, x1, .int v] (st) σ ρ g τ Q = AW d 239 35 [x0, x1, .int v] (.int v :: st) σ ρ g τ Q := aw_lc m239 d239_34 rfl rfl rfl
theorem d239_35 : decode cX12_isLast 35 = .ok (.iaload, 1) := by decide +kernel
theorem s239_35 {d : Nat} {st : List Value} {σ : am_I} {ρ : am_R} {g : am_J} {τ : am_T} {Q : am_Q} {x0 x1 x2 : Value} {a : Nat} {j : Int32} (ht : τ.1 a = 15) (hj : am_inb j (τ.2.1 a) = true) : AW d 239 35 [x0, x1, x2] (.int j :: .ref a :: st) σ ρ g τ Q = AW d 239 36 [x0, x1, x2] (.int (σ a j.toNatClampNeg) :: st) σ ρ g τ Q := aw_ial m239 d239_35 rfl ht hj
theorem d239_36 : decode cX12_isLast 36 = .ok (.aload_n 0, 1) := by decide +kernel
theorem s239_36 {d : Nat} {st : List Value} {σ : am_I} {ρ : am_R} {g : am_J} {τ : am_T} {Q : am_Q} {x1 x2 : Value} {v : Nat} : AW d 239 36 [.ref v, x1, x2] (st) σ ρ g τ Q = AW d 239 37 [.ref v, x1, x2] (.ref v :: st) σ ρ g τ Q := aw_lc m239 d239_36 rfl rfl rfl
theorem d239_37 : decode cX12_isLast 37 = .ok (.getfield 121, 3) := by decide +kernel
theorem s239_37 {d : Nat} {st : List Value} {σ : am_I} {ρ : am_R} {g : am_J} {τ : am_T} {Q : am_Q} {x0 x1 x2 : Value} {a : Nat} (ht : τ.1 a = 12) : AW d 239 37 [x0, x1, x2] (.ref a :: st) σ ρ g τ Q = AW d 239 40 [x0, x1, x2] (va_rf (ρ a 37) :: st) σ ρ g τ Q := aw_gr m239 d239_37 rfl rfl rfl ht
theorem d239_40 : decode cX12_isLast 40 = .ok (.iload_n 1, 1) := by decide +kernel
theorem s239_40 {d : Nat} {st : List Value} {σ : am_I} {ρ : am_R} {g : am_J} {τ : am_T} {Q : am_Q} {x0 x2 : Value} {v : Int32} : AW d 239 40 [x0, .int v, x2] (st) σ ρ g τ Q = AW d 239 41 [x0, .int v, x2] (.int v :: st) σ ρ g τ Q := aw_lc m239 d239_40 rfl rfl rfl
theorem d239_41 : decode cX12_isLast 41 = .ok (.iaload, 1) := by decide +kernel
theorem s239_41 {d : Nat} {st : List Value} {σ : am_I} {ρ : am_R} {g : am_J} {τ : am_T} {Q : am_Q} {x0 x1 x2 : Value} {a : Nat} {j : Int32} (ht : τ.1 a = 15) (hj : am_inb j (τ.2.1 a) = true) : AW d 239 41 [x0, x1, x2] (.int j :: .ref a :: st) σ ρ g τ Q = AW d 239 42 [x0, x1, x2] (.int (σ a j.toNatClampNeg) :: st) σ ρ g τ Q := aw_ial m239 d239_41 rfl ht hj
theorem d239_42 : decode cX12_isLast 42 = .ok (.if_icmp .ne 5, 3) := by decide +kernel
theorem s239_42 {d : Nat} {st : List Value} {σ : am_I} {ρ : am_R} {g : am_J} {τ : am_T} {Q : am_Q} {x0 x1 x2 : Value} {v w : Int32} : AW d 239 42 [x0, x1, x2] (.int w :: .int v :: st) σ ρ g τ Q = if ¬ v = w then AW d 239 47 [x0, x1, x2] (st) σ ρ g τ Q else AW d 239 45 [x0, x1, x2] (st) σ ρ g τ Q := aw_br m239 d239_42 rfl rfl rfl
theorem d239_45 : decode cX12_isLast 45 = .ok (.iconst 0, 1) := by decide +kernel
theorem s239_45 {d : Nat} {st : List Value} {σ : am_I} {ρ : am_R} {g : am_J} {τ : am_T} {Q : am_Q} {x0 x1 x2 : Value} : AW d 239 45 [x0, x1, x2] (st) σ ρ g τ Q = AW d 239 46 [x0, x1, x2] (.int 0 :: st) σ ρ g τ Q := aw_lc m239 d239_45 rfl rfl rfl
theorem d239_46 : decode cX12_isLast 46 = .ok (.ireturn, 1) := by decide +kernel
theorem s239_46 {d : Nat} {σ : am_I} {ρ : am_R} {g : am_J} {τ : am_T} {Q : am_Q} {x0 x1 x2 : Value} {v : Int32} (hv : am_b01 v = true) : AW d 239 46 [x0, x1, x2] ([.int v]) σ ρ g τ Q = Q (some (.int v)) σ ρ g τ := aw_rz m239 d239_46 rfl hv
theorem d239_47 : decode cX12_isLast 47 = .ok (.iinc 2 1, 3) := by decide +kernel
theorem s239_47 {d : Nat} {st : List Value} {σ : am_I} {ρ : am_R} {g : am_J} {τ : am_T} {Q : am_Q} {x0 : Value} {v : Int32} {u : Int32} : AW d 239 47 [x0, .int u, .int v] (st) σ ρ g τ Q = AW d 239 50 [x0, .int u, .int (v + 1)] (st) σ ρ g τ Q := aw_lc m239 d239_47 rfl rfl rfl
theorem d239_50 : decode cX12_isLast 50 = .ok (.goto (-46), 3) := by decide +kernel
theorem s239_50 {d : Nat} {st : List Value} {σ : am_I} {ρ : am_R} {g : am_J} {τ : am_T} {Q : am_Q} {x0 x1 x2 : Value} : AW d 239 50 [x0, x1, x2] (st) σ ρ g τ Q = AW d 239 4 [x0, x1, x2] (st) σ ρ g τ Q := aw_lc m239 d239_50 rfl rfl rfl
theorem d239_53 : decode cX12_isLast 53 = .ok (.iconst 1, 1) := by decide +kernel
theorem s239_53 {d : Nat} {st : List Value} {σ : am_I} {ρ : am_R} {g : am_J} {τ : am_T} {Q : am_Q} {x0 x1 x2 : Value} : AW d 239 53 [x0, x1, x2] (st) σ ρ g τ Q = AW d 239 54 [x0, x1, x2] (.int 1 :: st) σ ρ g τ Q := aw_lc m239 d239_53 rfl rfl rfl
theorem d239_54 : decode cX12_isLast 54 = .ok (.ireturn, 1) := by decide +kernel
theorem s239_54 {d : Nat} {σ : am_I} {ρ : am_R} {g : am_J} {τ : am_T} {Q : am_Q} {x0 x1 x2 : Value} {v : Int32} (hv : am_b01 v = true) : AW d 239 54 [x0, x1, x2] ([.int v]) σ ρ g τ Q = Q (some (.int v)) σ ρ g τ := aw_rz m239 d239_54 rfl hv
theorem d240_0 : decode cX12_takings 0 = .ok (.iload_n 1, 1) := by decide +kernel
theorem s240_0 {d : Nat} {st : List Value} {σ : am_I} {ρ : am_R} {g : am_J} {τ : am_T} {Q : am_Q} {x0 x2 x3 x4 x5 : Value} {v : Int32} : AW d 240 0 [x0, .int v, x2, x3, x4, x5] (st) σ ρ g τ Q = AW d 240 1 [x0, .int v, x2, x3, x4, x5] (.int v :: st) σ ρ g τ Q := aw_lc m240 d240_0 rfl rfl rfl
theorem d240_1 : decode cX12_takings 1 = .ok (.iconst 0, 1) := by decide +kernel
theorem s240_1 {d : Nat} {st : List Value} {σ : am_I} {ρ : am_R} {g : am_J} {τ : am_T} {Q : am_Q} {x0 x1 x2 x3 x4 x5 : Value} : AW d 240 1 [x0, x1, x2, x3, x4, x5] (st) σ ρ g τ Q = AW d 240 2 [x0, x1, x2, x3, x4, x5] (.int 0 :: st) σ ρ g τ Q := aw_lc m240 d240_1 rfl rfl rfl
theorem d240_2 : decode cX12_takings 2 = .ok (.iconst 1, 1) := by decide +kernel
theorem s240_2 {d : Nat} {st : List Value} {σ : am_I} {ρ : am_R} {g : am_J} {τ : am_T} {Q : am_Q} {x0 x1 x2 x3 x4 x5 : Value} : AW d 240 2 [x0, x1, x2, x3, x4, x5] (st) σ ρ g τ Q = AW d 240 3 [x0, x1, x2, x3, x4, x5] (.int 1 :: st) σ ρ g τ Q := aw_lc m240 d240_2 rfl rfl rfl
theorem d240_3 : decode cX12_takings 3 = .ok (.invokestatic 194, 3) := by decide +kernel
theorem s240_3 {d : Nat} {st : List Value} {σ : am_I} {ρ : am_R} {g : am_J} {τ : am_T} {Q : am_Q} {x0 x1 x2 x3 x4 x5 : Value} {p0 : Int32} {p1 : Int32} {p2 : Int32} (hs : st.length ≤ 4) : AW (d + 1) 240 3 [x0, x1, x2, x3, x4, x5] (.int p2 :: .int p1 :: .int p0 :: st) σ ρ g τ Q = AW d 165 0 [.int p0, .int p1, .int p2] [] σ ρ g τ (fun r9 σ ρ g τ => AW (d + 1) 240 6 [x0, x1, x2, x3, x4, x5] (r9.toList ++ st) σ ρ g τ Q) := aw_cs m240 d240_3 rfl (by simp only [List.length_cons]; omega) rfl rfl en165 ok165 rfl hs
theorem d240_6 : decode cX12_takings 6 = .ok (.ifCond .ne 5, 3) := by decide +kernel
theorem s240_6 {d : Nat} {st : List Value} {σ : am_I} {ρ : am_R} {g : am_J} {τ : am_T} {Q : am_Q} {x0 x1 x2 x3 x4 x5 : Value} {v : Int32} : AW d 240 6 [x0, x1, x2, x3, x4, x5] (.int v :: st) σ ρ g τ Q = if ¬ v = 0 then AW d 240 11 [x0, x1, x2, x3, x4, x5] (st) σ ρ g τ Q else AW d 240 9 [x0, x1, x2, x3, x4, x5] (st) σ ρ g τ Q := aw_br m240 d240_6 rfl rfl rfl
theorem d240_9 : decode cX12_takings 9 = .ok (.iconst (-1), 1) := by decide +kernel
theorem s240_9 {d : Nat} {st : List Value} {σ : am_I} {ρ : am_R} {g : am_J} {τ : am_T} {Q : am_Q} {x0 x1 x2 x3 x4 x5 : Value} : AW d 240 9 [x0, x1, x2, x3, x4, x5] (st) σ ρ g τ Q = AW d 240 10 [x0, x1, x2, x3, x4, x5] (.int (-1) :: st) σ ρ g τ Q := aw_lc m240 d240_9 rfl rfl rfl
theorem d240_10 : decode cX12_takings 10 = .ok (.ireturn, 1) := by decide +kernel
theorem s240_10 {d : Nat} {σ : am_I} {ρ : am_R} {g : am_J} {τ : am_T} {Q : am_Q} {x0 x1 x2 x3 x4 x5 : Value} {v : Int32} : AW d 240 10 [x0, x1, x2, x3, x4, x5] ([.int v]) σ ρ g τ Q = Q (some (.int v)) σ ρ g τ := aw_ri m240 d240_10 rfl
theorem d240_11 : decode cX12_takings 11 = .ok (.iconst 0, 1) := by decide +kernel
theorem s240_11 {d : Nat} {st : List Value} {σ : am_I} {ρ : am_R} {g : am_J} {τ : am_T} {Q : am_Q} {x0 x1 x2 x3 x4 x5 : Value} : AW d 240 11 [x0, x1, x2, x3, x4, x5] (st) σ ρ g τ Q = AW d 240 12 [x0, x1, x2, x3, x4, x5] (.int 0 :: st) σ ρ g τ Q := aw_lc m240 d240_11 rfl rfl rfl
theorem d240_12 : decode cX12_takings 12 = .ok (.istore_n 2, 1) := by decide +kernel
theorem s240_12 {d : Nat} {st : List Value} {σ : am_I} {ρ : am_R} {g : am_J} {τ : am_T} {Q : am_Q} {x0 x2 x3 x4 x5 : Value} {v : Int32} {u : Int32} : AW d 240 12 [x0, .int u, x2, x3, x4, x5] (.int v :: st) σ ρ g τ Q = AW d 240 13 [x0, .int u, .int v, x3, x4, x5] (st) σ ρ g τ Q := aw_lc m240 d240_12 rfl rfl rfl
theorem d240_13 : decode cX12_takings 13 = .ok (.iconst 0, 1) := by decide +kernel
theorem s240_13 {d : Nat} {st : List Value} {σ : am_I} {ρ : am_R} {g : am_J} {τ : am_T} {Q : am_Q} {x0 x1 x2 x3 x4 x5 : Value} : AW d 240 13 [x0, x1, x2, x3, x4, x5] (st) σ ρ g τ Q = AW d 240 14 [x0, x1, x2, x3, x4, x5] (.int 0 :: st) σ ρ g τ Q := aw_lc m240 d240_13 rfl rfl rfl
theorem d240_14 : decode cX12_takings 14 = .ok (.istore_n 3, 1) := by decide +kernel
theorem s240_14 {d : Nat} {st : List Value} {σ : am_I} {ρ : am_R} {g : am_J} {τ : am_T} {Q : am_Q} {x0 x1 x3 x4 x5 : Value} {v : Int32} {u : Int32} : AW d 240 14 [x0, x1, .int u, x3, x4, x5] (.int v :: st) σ ρ g τ Q = AW d 240 15 [x0, x1, .int u, .int v, x4, x5] (st) σ ρ g τ Q := aw_lc m240 d240_14 rfl rfl rfl
theorem d240_15 : decode cX12_takings 15 = .ok (.iconst 0, 1) := by decide +kernel
theorem s240_15 {d : Nat} {st : List Value} {σ : am_I} {ρ : am_R} {g : am_J} {τ : am_T} {Q : am_Q} {x0 x1 x2 x3 x4 x5 : Value} : AW d 240 15 [x0, x1, x2, x3, x4, x5] (st) σ ρ g τ Q = AW d 240 16 [x0, x1, x2, x3, x4, x5] (.int 0 :: st) σ ρ g τ Q := aw_lc m240 d240_15 rfl rfl rfl
theorem d240_16 : decode cX12_takings 16 = .ok (.istore 4, 2) := by decide +kernel
theorem s240_16 {d : Nat} {st : List Value} {σ : am_I} {ρ : am_R} {g : am_J} {τ : am_T} {Q : am_Q} {x0 x1 x2 x4 x5 : Value} {v : Int32} {u : Int32} : AW d 240 16 [x0, x1, x2, .int u, x4, x5] (.int v :: st) σ ρ g τ Q = AW d 240 18 [x0, x1, x2, .int u, .int v, x5] (st) σ ρ g τ Q := aw_lc m240 d240_16 rfl rfl rfl
theorem d240_18 : decode cX12_takings 18 = .ok (.iload 4, 2) := by decide +kernel
theorem s240_18 {d : Nat} {st : List Value} {σ : am_I} {ρ : am_R} {g : am_J} {τ : am_T} {Q : am_Q} {x0 x1 x2 x3 x5 : Value} {v : Int32} : AW d 240 18 [x0, x1, x2, x3, .int v, x5] (st) σ ρ g τ Q = AW d 240 20 [x0, x1, x2, x3, .int v, x5] (.int v :: st) σ ρ g τ Q := aw_lc m240 d240_18 rfl rfl rfl
theorem d240_20 : decode cX12_takings 20 = .ok (.aload_n 0, 1) := by decide +kernel
theorem s240_20 {d : Nat} {st : List Value} {σ : am_I} {ρ : am_R} {g : am_J} {τ : am_T} {Q : am_Q} {x1 x2 x3 x4 x5 : Value} {v : Nat} : AW d 240 20 [.ref v, x1, x2, x3, x4, x5] (st) σ ρ g τ Q = AW d 240 21 [.ref v, x1, x2, x3, x4, x5] (.ref v :: st) σ ρ g τ Q := aw_lc m240 d240_20 rfl rfl rfl
theorem d240_21 : decode cX12_takings 21 = .ok (.getfield 9, 3) := by decide +kernel
theorem s240_21 {d : Nat} {st : List Value} {σ : am_I} {ρ : am_R} {g : am_J} {τ : am_T} {Q : am_Q} {x0 x1 x2 x3 x4 x5 : Value} {a : Nat} (ht : τ.1 a = 12) : AW d 240 21 [x0, x1, x2, x3, x4, x5] (.ref a :: st) σ ρ g τ Q = AW d 240 24 [x0, x1, x2, x3, x4, x5] (va_rf (ρ a 0) :: st) σ ρ g τ Q := aw_gr m240 d240_21 rfl rfl rfl ht
theorem d240_24 : decode cX12_takings 24 = .ok (.bipush 6, 2) := by decide +kernel
theorem s240_24 {d : Nat} {st : List Value} {σ : am_I} {ρ : am_R} {g : am_J} {τ : am_T} {Q : am_Q} {x0 x1 x2 x3 x4 x5 : Value} : AW d 240 24 [x0, x1, x2, x3, x4, x5] (st) σ ρ g τ Q = AW d 240 26 [x0, x1, x2, x3, x4, x5] (.int 6 :: st) σ ρ g τ Q := aw_lc m240 d240_24 rfl rfl rfl
theorem d240_26 : decode cX12_takings 26 = .ok (.iaload, 1) := by decide +kernel
theorem s240_26 {d : Nat} {st : List Value} {σ : am_I} {ρ : am_R} {g : am_J} {τ : am_T} {Q : am_Q} {x0 x1 x2 x3 x4 x5 : Value} {a : Nat} {j : Int32} (ht : τ.1 a = 15) (hj : am_inb j (τ.2.1 a) = true) : AW d 240 26 [x0, x1, x2, x3, x4, x5] (.int j :: .ref a :: st) σ ρ g τ Q = AW d 240 27 [x0, x1, x2, x3, x4, x5] (.int (σ a j.toNatClampNeg) :: st) σ ρ g τ Q := aw_ial m240 d240_26 rfl ht hj
theorem d240_27 : decode cX12_takings 27 = .ok (.if_icmp .ge 63, 3) := by decide +kernel
theorem s240_27 {d : Nat} {st : List Value} {σ : am_I} {ρ : am_R} {g : am_J} {τ : am_T} {Q : am_Q} {x0 x1 x2 x3 x4 x5 : Value} {v w : Int32} : AW d 240 27 [x0, x1, x2, x3, x4, x5] (.int w :: .int v :: st) σ ρ g τ Q = if w ≤ v then AW d 240 90 [x0, x1, x2, x3, x4, x5] (st) σ ρ g τ Q else AW d 240 30 [x0, x1, x2, x3, x4, x5] (st) σ ρ g τ Q := aw_br m240 d240_27 rfl rfl rfl
theorem d240_30 : decode cX12_takings 30 = .ok (.aload_n 0, 1) := by decide +kernel
theorem s240_30 {d : Nat} {st : List Value} {σ : am_I} {ρ : am_R} {g : am_J} {τ : am_T} {Q : am_Q} {x1 x2 x3 x4 x5 : Value} {v : Nat} : AW d 240 30 [.ref v, x1, x2, x3, x4, x5] (st) σ ρ g τ Q = AW d 240 31 [.ref v, x1, x2, x3, x4, x5] (.ref v :: st) σ ρ g τ Q := aw_lc m240 d240_30 rfl rfl rfl
theorem d240_31 : decode cX12_takings 31 = .ok (.iload 4, 2) := by decide +kernel
theorem s240_31 {d : Nat} {st : List Value} {σ : am_I} {ρ : am_R} {g : am_J} {τ : am_T} {Q : am_Q} {x0 x1 x2 x3 x5 : Value} {v : Int32} : AW d 240 31 [x0, x1, x2, x3, .int v, x5] (st) σ ρ g τ Q = AW d 240 33 [x0, x1, x2, x3, .int v, x5] (.int v :: st) σ ρ g τ Q := aw_lc m240 d240_31 rfl rfl rfl
theorem d240_33 : decode cX12_takings 33 = .ok (.invokevirtual 422, 3) := by decide +kernel
theorem s240_33 {d : Nat} {st : List Value} {σ : am_I} {ρ : am_R} {g : am_J} {τ : am_T} {Q : am_Q} {x0 x1 x2 x3 x4 x5 : Value} {p0 : Nat} {p1 : Int32} (ht : τ.1 p0 = 12) (hs : st.length ≤ 4) : AW (d + 1) 240 33 [x0, x1, x2, x3, x4, x5] (.int p1 :: .ref p0 :: st) σ ρ g τ Q = AW d 238 0 [.ref p0, .int p1, am_jk, am_jk] [] σ ρ g τ (fun r9 σ ρ g τ => AW (d + 1) 240 36 [x0, x1, x2, x3, x4, x5] (r9.toList ++ st) σ ρ g τ Q) := aw_cv m240 d240_33 rfl m238 rfl rfl (by decide) en238 ok238 rfl ht hs
theorem d240_36 : decode cX12_takings 36 = .ok (.aload_n 0, 1) := by decide +kernel
theorem s240_36 {d : Nat} {st : List Value} {σ : am_I} {ρ : am_R} {g : am_J} {τ : am_T} {Q : am_Q} {x1 x2 x3 x4 x5 : Value} {v : Nat} : AW d 240 36 [.ref v, x1, x2, x3, x4, x5] (st) σ ρ g τ Q = AW d 240 37 [.ref v, x1, x2, x3, x4, x5] (.ref v :: st) σ ρ g τ Q := aw_lc m240 d240_36 rfl rfl rfl
theorem d240_37 : decode cX12_takings 37 = .ok (.iconst 3, 1) := by decide +kernel
theorem s240_37 {d : Nat} {st : List Value} {σ : am_I} {ρ : am_R} {g : am_J} {τ : am_T} {Q : am_Q} {x0 x1 x2 x3 x4 x5 : Value} : AW d 240 37 [x0, x1, x2, x3, x4, x5] (st) σ ρ g τ Q = AW d 240 38 [x0, x1, x2, x3, x4, x5] (.int 3 :: st) σ ρ g τ Q := aw_lc m240 d240_37 rfl rfl rfl
theorem d240_38 : decode cX12_takings 38 = .ok (.aload_n 0, 1) := by decide +kernel
theorem s240_38 {d : Nat} {st : List Value} {σ : am_I} {ρ : am_R} {g : am_J} {τ : am_T} {Q : am_Q} {x1 x2 x3 x4 x5 : Value} {v : Nat} : AW d 240 38 [.ref v, x1, x2, x3, x4, x5] (st) σ ρ g τ Q = AW d 240 39 [.ref v, x1, x2, x3, x4, x5] (.ref v :: st) σ ρ g τ Q := aw_lc m240 d240_38 rfl rfl rfl
theorem d240_39 : decode cX12_takings 39 = .ok (.getfield 115, 3) := by decide +kernel
theorem s240_39 {d : Nat} {st : List Value} {σ : am_I} {ρ : am_R} {g : am_J} {τ : am_T} {Q : am_Q} {x0 x1 x2 x3 x4 x5 : Value} {a : Nat} (ht : τ.1 a = 12) : AW d 240 39 [x0, x1, x2, x3, x4, x5] (.ref a :: st) σ ρ g τ Q = AW d 240 42 [x0, x1, x2, x3, x4, x5] (va_rf (ρ a 35) :: st) σ ρ g τ Q := aw_gr m240 d240_39 rfl rfl rfl ht
theorem d240_42 : decode cX12_takings 42 = .ok (.iload 4, 2) := by decide +kernel
theorem s240_42 {d : Nat} {st : List Value} {σ : am_I} {ρ : am_R} {g : am_J} {τ : am_T} {Q : am_Q} {x0 x1 x2 x3 x5 : Value} {v : Int32} : AW d 240 42 [x0, x1, x2, x3, .int v, x5] (st) σ ρ g τ Q = AW d 240 44 [x0, x1, x2, x3, .int v, x5] (.int v :: st) σ ρ g τ Q := aw_lc m240 d240_42 rfl rfl rfl
theorem d240_44 : decode cX12_takings 44 = .ok (.iaload, 1) := by decide +kernel
theorem s240_44 {d : Nat} {st : List Value} {σ : am_I} {ρ : am_R} {g : am_J} {τ : am_T} {Q : am_Q} {x0 x1 x2 x3 x4 x5 : Value} {a : Nat} {j : Int32} (ht : τ.1 a = 15) (hj : am_inb j (τ.2.1 a) = true) : AW d 240 44 [x0, x1, x2, x3, x4, x5] (.int j :: .ref a :: st) σ ρ g τ Q = AW d 240 45 [x0, x1, x2, x3, x4, x5] (.int (σ a j.toNatClampNeg) :: st) σ ρ g τ Q := aw_ial m240 d240_44 rfl ht hj
theorem d240_45 : decode cX12_takings 45 = .ok (.aload_n 0, 1) := by decide +kernel
theorem s240_45 {d : Nat} {st : List Value} {σ : am_I} {ρ : am_R} {g : am_J} {τ : am_T} {Q : am_Q} {x1 x2 x3 x4 x5 : Value} {v : Nat} : AW d 240 45 [.ref v, x1, x2, x3, x4, x5] (st) σ ρ g τ Q = AW d 240 46 [.ref v, x1, x2, x3, x4, x5] (.ref v :: st) σ ρ g τ Q := aw_lc m240 d240_45 rfl rfl rfl
theorem d240_46 : decode cX12_takings 46 = .ok (.getfield 121, 3) := by decide +kernel
theorem s240_46 {d : Nat} {st : List Value} {σ : am_I} {ρ : am_R} {g : am_J} {τ : am_T} {Q : am_Q} {x0 x1 x2 x3 x4 x5 : Value} {a : Nat} (ht : τ.1 a = 12) : AW d 240 46 [x0, x1, x2, x3, x4, x5] (.ref a :: st) σ ρ g τ Q = AW d 240 49 [x0, x1, x2, x3, x4, x5] (va_rf (ρ a 37) :: st) σ ρ g τ Q := aw_gr m240 d240_46 rfl rfl rfl ht
theorem d240_49 : decode cX12_takings 49 = .ok (.iload 4, 2) := by decide +kernel
theorem s240_49 {d : Nat} {st : List Value} {σ : am_I} {ρ : am_R} {g : am_J} {τ : am_T} {Q : am_Q} {x0 x1 x2 x3 x5 : Value} {v : Int32} : AW d 240 49 [x0, x1, x2, x3, .int v, x5] (st) σ ρ g τ Q = AW d 240 51 [x0, x1, x2, x3, .int v, x5] (.int v :: st) σ ρ g τ Q := aw_lc m240 d240_49 rfl rfl rfl
theorem d240_51 : decode cX12_takings 51 = .ok (.iaload, 1) := by decide +kernel
theorem s240_51 {d : Nat} {st : List Value} {σ : am_I} {ρ : am_R} {g : am_J} {τ : am_T} {Q : am_Q} {x0 x1 x2 x3 x4 x5 : Value} {a : Nat} {j : Int32} (ht : τ.1 a = 15) (hj : am_inb j (τ.2.1 a) = true) : AW d 240 51 [x0, x1, x2, x3, x4, x5] (.int j :: .ref a :: st) σ ρ g τ Q = AW d 240 52 [x0, x1, x2, x3, x4, x5] (.int (σ a j.toNatClampNeg) :: st) σ ρ g τ Q := aw_ial m240 d240_51 rfl ht hj
theorem d240_52 : decode cX12_takings 52 = .ok (.invokevirtual 389, 3) := by decide +kernel
theorem s240_52 {d : Nat} {st : List Value} {σ : am_I} {ρ : am_R} {g : am_J} {τ : am_T} {Q : am_Q} {x0 x1 x2 x3 x4 x5 : Value} {p0 : Nat} {p1 : Int32} {p2 : Int32} {p3 : Int32} (ht : τ.1 p0 = 12) (hs : st.length ≤ 4) : AW (d + 1) 240 52 [x0, x1, x2, x3, x4, x5] (.int p3 :: .int p2 :: .int p1 :: .ref p0 :: st) σ ρ g τ Q = AW d 208 0 [.ref p0, .int p1, .int p2, .int p3, am_jk, am_jk, am_jk] [] σ ρ g τ (fun r9 σ ρ g τ => AW (d + 1) 240 55 [x0, x1, x2, x3, x4, x5] (r9.toList ++ st) σ ρ g τ Q) := aw_cv m240 d240_52 rfl m208 rfl rfl (by decide) en208 ok208 rfl ht hs
theorem d240_55 : decode cX12_takings 55 = .ok (.isub, 1) := by decide +kernel
theorem s240_55 {d : Nat} {st : List Value} {σ : am_I} {ρ : am_R} {g : am_J} {τ : am_T} {Q : am_Q} {x0 x1 x2 x3 x4 x5 : Value} {v w : Int32} : AW d 240 55 [x0, x1, x2, x3, x4, x5] (.int w :: .int v :: st) σ ρ g τ Q = AW d 240 56 [x0, x1, x2, x3, x4, x5] (.int (v - w) :: st) σ ρ g τ Q := aw_lc m240 d240_55 rfl rfl rfl
theorem d240_56 : decode cX12_takings 56 = .ok (.istore 5, 2) := by decide +kernel
theorem s240_56 {d : Nat} {st : List Value} {σ : am_I} {ρ : am_R} {g : am_J} {τ : am_T} {Q : am_Q} {x0 x1 x2 x3 x5 : Value} {v : Int32} {u : Int32} : AW d 240 56 [x0, x1, x2, x3, .int u, x5] (.int v :: st) σ ρ g τ Q = AW d 240 58 [x0, x1, x2, x3, .int u, .int v] (st) σ ρ g τ Q := aw_lc m240 d240_56 rfl rfl rfl
theorem d240_58 : decode cX12_takings 58 = .ok (.iload 5, 2) := by decide +kernel
theorem s240_58 {d : Nat} {st : List Value} {σ : am_I} {ρ : am_R} {g : am_J} {τ : am_T} {Q : am_Q} {x0 x1 x2 x3 x4 : Value} {v : Int32} : AW d 240 58 [x0, x1, x2, x3, x4, .int v] (st) σ ρ g τ Q = AW d 240 60 [x0, x1, x2, x3, x4, .int v] (.int v :: st) σ ρ g τ Q := aw_lc m240 d240_58 rfl rfl rfl
theorem d240_60 : decode cX12_takings 60 = .ok (.ifCond .le 24, 3) := by decide +kernel
theorem s240_60 {d : Nat} {st : List Value} {σ : am_I} {ρ : am_R} {g : am_J} {τ : am_T} {Q : am_Q} {x0 x1 x2 x3 x4 x5 : Value} {v : Int32} : AW d 240 60 [x0, x1, x2, x3, x4, x5] (.int v :: st) σ ρ g τ Q = if v ≤ 0 then AW d 240 84 [x0, x1, x2, x3, x4, x5] (st) σ ρ g τ Q else AW d 240 63 [x0, x1, x2, x3, x4, x5] (st) σ ρ g τ Q := aw_br m240 d240_60 rfl rfl rfl
theorem d240_63 : decode cX12_takings 63 = .ok (.iload_n 2, 1) := by decide +kernel
theorem s240_63 {d : Nat} {st : List Value} {σ : am_I} {ρ : am_R} {g : am_J} {τ : am_T} {Q : am_Q} {x0 x1 x3 x4 x5 : Value} {v : Int32} : AW d 240 63 [x0, x1, .int v, x3, x4, x5] (st) σ ρ g τ Q = AW d 240 64 [x0, x1, .int v, x3, x4, x5] (.int v :: st) σ ρ g τ Q := aw_lc m240 d240_63 rfl rfl rfl
theorem d240_64 : decode cX12_takings 64 = .ok (.iconst 1, 1) := by decide +kernel
theorem s240_64 {d : Nat} {st : List Value} {σ : am_I} {ρ : am_R} {g : am_J} {τ : am_T} {Q : am_Q} {x0 x1 x2 x3 x4 x5 : Value} : AW d 240 64 [x0, x1, x2, x3, x4, x5] (st) σ ρ g τ Q = AW d 240 65 [x0, x1, x2, x3, x4, x5] (.int 1 :: st) σ ρ g τ Q := aw_lc m240 d240_64 rfl rfl rfl
theorem d240_65 : decode cX12_takings 65 = .ok (.iload 4, 2) := by decide +kernel
theorem s240_65 {d : Nat} {st : List Value} {σ : am_I} {ρ : am_R} {g : am_J} {τ : am_T} {Q : am_Q} {x0 x1 x2 x3 x5 : Value} {v : Int32} : AW d 240 65 [x0, x1, x2, x3, .int v, x5] (st) σ ρ g τ Q = AW d 240 67 [x0, x1, x2, x3, .int v, x5] (.int v :: st) σ ρ g τ Q := aw_lc m240 d240_65 rfl rfl rfl
theorem d240_67 : decode cX12_takings 67 = .ok (.ishl, 1) := by decide +kernel
theorem s240_67 {d : Nat} {st : List Value} {σ : am_I} {ρ : am_R} {g : am_J} {τ : am_T} {Q : am_Q} {x0 x1 x2 x3 x4 x5 : Value} {v w : Int32} : AW d 240 67 [x0, x1, x2, x3, x4, x5] (.int w :: .int v :: st) σ ρ g τ Q = AW d 240 68 [x0, x1, x2, x3, x4, x5] (.int (v <<< (w &&& 31)) :: st) σ ρ g τ Q := aw_lc m240 d240_67 rfl rfl rfl
theorem d240_68 : decode cX12_takings 68 = .ok (.ior, 1) := by decide +kernel
theorem s240_68 {d : Nat} {st : List Value} {σ : am_I} {ρ : am_R} {g : am_J} {τ : am_T} {Q : am_Q} {x0 x1 x2 x3 x4 x5 : Value} {v w : Int32} : AW d 240 68 [x0, x1, x2, x3, x4, x5] (.int w :: .int v :: st) σ ρ g τ Q = AW d 240 69 [x0, x1, x2, x3, x4, x5] (.int (v ||| w) :: st) σ ρ g τ Q := aw_lc m240 d240_68 rfl rfl rfl
theorem d240_69 : decode cX12_takings 69 = .ok (.istore_n 2, 1) := by decide +kernel
theorem s240_69 {d : Nat} {st : List Value} {σ : am_I} {ρ : am_R} {g : am_J} {τ : am_T} {Q : am_Q} {x0 x2 x3 x4 x5 : Value} {v : Int32} {u : Int32} : AW d 240 69 [x0, .int u, x2, x3, x4, x5] (.int v :: st) σ ρ g τ Q = AW d 240 70 [x0, .int u, .int v, x3, x4, x5] (st) σ ρ g τ Q := aw_lc m240 d240_69 rfl rfl rfl
theorem d240_70 : decode cX12_takings 70 = .ok (.aload_n 0, 1) := by decide +kernel
theorem s240_70 {d : Nat} {st : List Value} {σ : am_I} {ρ : am_R} {g : am_J} {τ : am_T} {Q : am_Q} {x1 x2 x3 x4 x5 : Value} {v : Nat} : AW d 240 70 [.ref v, x1, x2, x3, x4, x5] (st) σ ρ g τ Q = AW d 240 71 [.ref v, x1, x2, x3, x4, x5] (.ref v :: st) σ ρ g τ Q := aw_lc m240 d240_70 rfl rfl rfl
theorem d240_71 : decode cX12_takings 71 = .ok (.iload 4, 2) := by decide +kernel
theorem s240_71 {d : Nat} {st : List Value} {σ : am_I} {ρ : am_R} {g : am_J} {τ : am_T} {Q : am_Q} {x0 x1 x2 x3 x5 : Value} {v : Int32} : AW d 240 71 [x0, x1, x2, x3, .int v, x5] (st) σ ρ g τ Q = AW d 240 73 [x0, x1, x2, x3, .int v, x5] (.int v :: st) σ ρ g τ Q := aw_lc m240 d240_71 rfl rfl rfl
theorem d240_73 : decode cX12_takings 73 = .ok (.invokevirtual 425, 3) := by decide +kernel
theorem s240_73 {d : Nat} {st : List Value} {σ : am_I} {ρ : am_R} {g : am_J} {τ : am_T} {Q : am_Q} {x0 x1 x2 x3 x4 x5 : Value} {p0 : Nat} {p1 : Int32} (ht : τ.1 p0 = 12) (hs : st.length ≤ 4) : AW (d + 1) 240 73 [x0, x1, x2, x3, x4, x5] (.int p1 :: .ref p0 :: st) σ ρ g τ Q = AW d 239 0 [.ref p0, .int p1, am_jk] [] σ ρ g τ (fun r9 σ ρ g τ => AW (d + 1) 240 76 [x0, x1, x2, x3, x4, x5] (r9.toList ++ st) σ ρ g τ Q) := aw_cv m240 d240_73 rfl m239 rfl rfl (by decide) en239 ok239 rfl ht hs
theorem d240_76 : decode cX12_takings 76 = .ok (.ifCond .eq 8, 3) := by decide +kernel
theorem s240_76 {d : Nat} {st : List Value} {σ : am_I} {ρ : am_R} {g : am_J} {τ : am_T} {Q : am_Q} {x0 x1 x2 x3 x4 x5 : Value} {v : Int32} : AW d 240 76 [x0, x1, x2, x3, x4, x5] (.int v :: st) σ ρ g τ Q = if v = 0 then AW d 240 84 [x0, x1, x2, x3, x4, x5] (st) σ ρ g τ Q else AW d 240 79 [x0, x1, x2, x3, x4, x5] (st) σ ρ g τ Q := aw_br m240 d240_76 rfl rfl rfl
theorem d240_79 : decode cX12_takings 79 = .ok (.iload_n 3, 1) := by decide +kernel
theorem s240_79 {d : Nat} {st : List Value} {σ : am_I} {ρ : am_R} {g : am_J} {τ : am_T} {Q : am_Q} {x0 x1 x2 x4 x5 : Value} {v : Int32} : AW d 240 79 [x0, x1, x2, .int v, x4, x5] (st) σ ρ g τ Q = AW d 240 80 [x0, x1, x2, .int v, x4, x5] (.int v :: st) σ ρ g τ Q := aw_lc m240 d240_79 rfl rfl rfl
theorem d240_80 : decode cX12_takings 80 = .ok (.iload 5, 2) := by decide +kernel
theorem s240_80 {d : Nat} {st : List Value} {σ : am_I} {ρ : am_R} {g : am_J} {τ : am_T} {Q : am_Q} {x0 x1 x2 x3 x4 : Value} {v : Int32} : AW d 240 80 [x0, x1, x2, x3, x4, .int v] (st) σ ρ g τ Q = AW d 240 82 [x0, x1, x2, x3, x4, .int v] (.int v :: st) σ ρ g τ Q := aw_lc m240 d240_80 rfl rfl rfl
theorem d240_82 : decode cX12_takings 82 = .ok (.iadd, 1) := by decide +kernel
theorem s240_82 {d : Nat} {st : List Value} {σ : am_I} {ρ : am_R} {g : am_J} {τ : am_T} {Q : am_Q} {x0 x1 x2 x3 x4 x5 : Value} {v w : Int32} : AW d 240 82 [x0, x1, x2, x3, x4, x5] (.int w :: .int v :: st) σ ρ g τ Q = AW d 240 83 [x0, x1, x2, x3, x4, x5] (.int (v + w) :: st) σ ρ g τ Q := aw_lc m240 d240_82 rfl rfl rfl
theorem d240_83 : decode cX12_takings 83 = .ok (.istore_n 3, 1) := by decide +kernel
theorem s240_83 {d : Nat} {st : List Value} {σ : am_I} {ρ : am_R} {g : am_J} {τ : am_T} {Q : am_Q} {x0 x1 x3 x4 x5 : Value} {v : Int32} {u : Int32} : AW d 240 83 [x0, x1, .int u, x3, x4, x5] (.int v :: st) σ ρ g τ Q = AW d 240 84 [x0, x1, .int u, .int v, x4, x5] (st) σ ρ g τ Q := aw_lc m240 d240_83 rfl rfl rfl
theorem d240_84 : decode cX12_takings 84 = .ok (.iinc 4 1, 3) := by decide +kernel
theorem s240_84 {d : Nat} {st : List Value} {σ : am_I} {ρ : am_R} {g : am_J} {τ : am_T} {Q : am_Q} {x0 x1 x2 x5 : Value} {v : Int32} {u : Int32} : AW d 240 84 [x0, x1, x2, .int u, .int v, x5] (st) σ ρ g τ Q = AW d 240 87 [x0, x1, x2, .int u, .int (v + 1), x5] (st) σ ρ g τ Q := aw_lc m240 d240_84 rfl rfl rfl
theorem d240_87 : decode cX12_takings 87 = .ok (.goto (-69), 3) := by decide +kernel
theorem s240_87 {d : Nat} {st : List Value} {σ : am_I} {ρ : am_R} {g : am_J} {τ : am_T} {Q : am_Q} {x0 x1 x2 x3 x4 x5 : Value} : AW d 240 87 [x0, x1, x2, x3, x4, x5] (st) σ ρ g τ Q = AW d 240 18 [x0, x1, x2, x3, x4, x5] (st) σ ρ g τ Q := aw_lc m240 d240_87 rfl rfl rfl
theorem d240_90 : decode cX12_takings 90 = .ok (.iload_n 1, 1) := by decide +kernel
theorem s240_90 {d : Nat} {st : List Value} {σ : am_I} {ρ : am_R} {g : am_J} {τ : am_T} {Q : am_Q} {x0 x2 x3 x4 x5 : Value} {v : Int32} : AW d 240 90 [x0, .int v, x2, x3, x4, x5] (st) σ ρ g τ Q = AW d 240 91 [x0, .int v, x2, x3, x4, x5] (.int v :: st) σ ρ g τ Q := aw_lc m240 d240_90 rfl rfl rfl
theorem d240_91 : decode cX12_takings 91 = .ok (.ifCond .ne 7, 3) := by decide +kernel
theorem s240_91 {d : Nat} {st : List Value} {σ : am_I} {ρ : am_R} {g : am_J} {τ : am_T} {Q : am_Q} {x0 x1 x2 x3 x4 x5 : Value} {v : Int32} : AW d 240 91 [x0, x1, x2, x3, x4, x5] (.int v :: st) σ ρ g τ Q = if ¬ v = 0 then AW d 240 98 [x0, x1, x2, x3, x4, x5] (st) σ ρ g τ Q else AW d 240 94 [x0, x1, x2, x3, x4, x5] (st) σ ρ g τ Q := aw_br m240 d240_91 rfl rfl rfl
theorem d240_94 : decode cX12_takings 94 = .ok (.iload_n 2, 1) := by decide +kernel
theorem s240_94 {d : Nat} {st : List Value} {σ : am_I} {ρ : am_R} {g : am_J} {τ : am_T} {Q : am_Q} {x0 x1 x3 x4 x5 : Value} {v : Int32} : AW d 240 94 [x0, x1, .int v, x3, x4, x5] (st) σ ρ g τ Q = AW d 240 95 [x0, x1, .int v, x3, x4, x5] (.int v :: st) σ ρ g τ Q := aw_lc m240 d240_94 rfl rfl rfl
theorem d240_95 : decode cX12_takings 95 = .ok (.goto 4, 3) := by decide +kernel
theorem s240_95 {d : Nat} {st : List Value} {σ : am_I} {ρ : am_R} {g : am_J} {τ : am_T} {Q : am_Q} {x0 x1 x2 x3 x4 x5 : Value} : AW d 240 95 [x0, x1, x2, x3, x4, x5] (st) σ ρ g τ Q = AW d 240 99 [x0, x1, x2, x3, x4, x5] (st) σ ρ g τ Q := aw_lc m240 d240_95 rfl rfl rfl
theorem d240_98 : decode cX12_takings 98 = .ok (.iload_n 3, 1) := by decide +kernel
theorem s240_98 {d : Nat} {st : List Value} {σ : am_I} {ρ : am_R} {g : am_J} {τ : am_T} {Q : am_Q} {x0 x1 x2 x4 x5 : Value} {v : Int32} : AW d 240 98 [x0, x1, x2, .int v, x4, x5] (st) σ ρ g τ Q = AW d 240 99 [x0, x1, x2, .int v, x4, x5] (.int v :: st) σ ρ g τ Q := aw_lc m240 d240_98 rfl rfl rfl
theorem d240_99 : decode cX12_takings 99 = .ok (.ireturn, 1) := by decide +kernel
theorem s240_99 {d : Nat} {σ : am_I} {ρ : am_R} {g : am_J} {τ : am_T} {Q : am_Q} {x0 x1 x2 x3 x4 x5 : Value} {v : Int32} : AW d 240 99 [x0, x1, x2, x3, x4, x5] ([.int v]) σ ρ g τ Q = Q (some (.int v)) σ ρ g τ := aw_ri m240 d240_99 rfl
theorem d241_0 : decode cX12_choice 0 = .ok (.iload_n 1, 1) := by decide +kernel
theorem s241_0 {d : Nat} {st : List Value} {σ : am_I} {ρ : am_R} {g : am_J} {τ : am_T} {Q : am_Q} {x0 x2 x3 x4 x5 : Value} {v : Int32} : AW d 241 0 [x0, .int v, x2, x3, x4, x5] (st) σ ρ g τ Q = AW d 241 1 [x0, .int v, x2, x3, x4, x5] (.int v :: st) σ ρ g τ Q := aw_lc m241 d241_0 rfl rfl rfl
theorem d241_1 : decode cX12_choice 1 = .ok (.sipush (-999), 3) := by decide +kernel
theorem s241_1 {d : Nat} {st : List Value} {σ : am_I} {ρ : am_R} {g : am_J} {τ : am_T} {Q : am_Q} {x0 x1 x2 x3 x4 x5 : Value} : AW d 241 1 [x0, x1, x2, x3, x4, x5] (st) σ ρ g τ Q = AW d 241 4 [x0, x1, x2, x3, x4, x5] (.int (-999) :: st) σ ρ g τ Q := aw_lc m241 d241_1 rfl rfl rfl
theorem d241_4 : decode cX12_choice 4 = .ok (.sipush 999, 3) := by decide +kernel
theorem s241_4 {d : Nat} {st : List Value} {σ : am_I} {ρ : am_R} {g : am_J} {τ : am_T} {Q : am_Q} {x0 x1 x2 x3 x4 x5 : Value} : AW d 241 4 [x0, x1, x2, x3, x4, x5] (st) σ ρ g τ Q = AW d 241 7 [x0, x1, x2, x3, x4, x5] (.int 999 :: st) σ ρ g τ Q := aw_lc m241 d241_4 rfl rfl rfl
theorem d241_7 : decode cX12_choice 7 = .ok (.invokestatic 194, 3) := by decide +kernel
theorem s241_7 {d : Nat} {st : List Value} {σ : am_I} {ρ : am_R} {g : am_J} {τ : am_T} {Q : am_Q} {x0 x1 x2 x3 x4 x5 : Value} {p0 : Int32} {p1 : Int32} {p2 : Int32} (hs : st.length ≤ 4) : AW (d + 1) 241 7 [x0, x1, x2, x3, x4, x5] (.int p2 :: .int p1 :: .int p0 :: st) σ ρ g τ Q = AW d 165 0 [.int p0, .int p1, .int p2] [] σ ρ g τ (fun r9 σ ρ g τ => AW (d + 1) 241 10 [x0, x1, x2, x3, x4, x5] (r9.toList ++ st) σ ρ g τ Q) := aw_cs m241 d241_7 rfl (by simp only [List.length_cons]; omega) rfl rfl en165 ok165 rfl hs
theorem d241_10 : decode cX12_choice 10 = .ok (.ifCond .eq 40, 3) := by decide +kernel
theorem s241_10 {d : Nat} {st : List Value} {σ : am_I} {ρ : am_R} {g : am_J} {τ : am_T} {Q : am_Q} {x0 x1 x2 x3 x4 x5 : Value} {v : Int32} : AW d 241 10 [x0, x1, x2, x3, x4, x5] (.int v :: st) σ ρ g τ Q = if v = 0 then AW d 241 50 [x0, x1, x2, x3, x4, x5] (st) σ ρ g τ Q else AW d 241 13 [x0, x1, x2, x3, x4, x5] (st) σ ρ g τ Q := aw_br m241 d241_10 rfl rfl rfl
theorem d241_13 : decode cX12_choice 13 = .ok (.iload_n 2, 1) := by decide +kernel
theorem s241_13 {d : Nat} {st : List Value} {σ : am_I} {ρ : am_R} {g : am_J} {τ : am_T} {Q : am_Q} {x0 x1 x3 x4 x5 : Value} {v : Int32} : AW d 241 13 [x0, x1, .int v, x3, x4, x5] (st) σ ρ g τ Q = AW d 241 14 [x0, x1, .int v, x3, x4, x5] (.int v :: st) σ ρ g τ Q := aw_lc m241 d241_13 rfl rfl rfl
theorem d241_14 : decode cX12_choice 14 = .ok (.sipush (-999), 3) := by decide +kernel
theorem s241_14 {d : Nat} {st : List Value} {σ : am_I} {ρ : am_R} {g : am_J} {τ : am_T} {Q : am_Q} {x0 x1 x2 x3 x4 x5 : Value} : AW d 241 14 [x0, x1, x2, x3, x4, x5] (st) σ ρ g τ Q = AW d 241 17 [x0, x1, x2, x3, x4, x5] (.int (-999) :: st) σ ρ g τ Q := aw_lc m241 d241_14 rfl rfl rfl
theorem d241_17 : decode cX12_choice 17 = .ok (.sipush 999, 3) := by decide +kernel
theorem s241_17 {d : Nat} {st : List Value} {σ : am_I} {ρ : am_R} {g : am_J} {τ : am_T} {Q : am_Q} {x0 x1 x2 x3 x4 x5 : Value} : AW d 241 17 [x0, x1, x2, x3, x4, x5] (st) σ ρ g τ Q = AW d 241 20 [x0, x1, x2, x3, x4, x5] (.int 999 :: st) σ ρ g τ Q := aw_lc m241 d241_17 rfl rfl rfl
theorem d241_20 : decode cX12_choice 20 = .ok (.invokestatic 194, 3) := by decide +kernel
theorem s241_20 {d : Nat} {st : List Value} {σ : am_I} {ρ : am_R} {g : am_J} {τ : am_T} {Q : am_Q} {x0 x1 x2 x3 x4 x5 : Value} {p0 : Int32} {p1 : Int32} {p2 : Int32} (hs : st.length ≤ 4) : AW (d + 1) 241 20 [x0, x1, x2, x3, x4, x5] (.int p2 :: .int p1 :: .int p0 :: st) σ ρ g τ Q = AW d 165 0 [.int p0, .int p1, .int p2] [] σ ρ g τ (fun r9 σ ρ g τ => AW (d + 1) 241 23 [x0, x1, x2, x3, x4, x5] (r9.toList ++ st) σ ρ g τ Q) := aw_cs m241 d241_20 rfl (by simp only [List.length_cons]; omega) rfl rfl en165 ok165 rfl hs
theorem d241_23 : decode cX12_choice 23 = .ok (.ifCond .eq 27, 3) := by decide +kernel
theorem s241_23 {d : Nat} {st : List Value} {σ : am_I} {ρ : am_R} {g : am_J} {τ : am_T} {Q : am_Q} {x0 x1 x2 x3 x4 x5 : Value} {v : Int32} : AW d 241 23 [x0, x1, x2, x3, x4, x5] (.int v :: st) σ ρ g τ Q = if v = 0 then AW d 241 50 [x0, x1, x2, x3, x4, x5] (st) σ ρ g τ Q else AW d 241 26 [x0, x1, x2, x3, x4, x5] (st) σ ρ g τ Q := aw_br m241 d241_23 rfl rfl rfl
theorem d241_26 : decode cX12_choice 26 = .ok (.iload_n 3, 1) := by decide +kernel
theorem s241_26 {d : Nat} {st : List Value} {σ : am_I} {ρ : am_R} {g : am_J} {τ : am_T} {Q : am_Q} {x0 x1 x2 x4 x5 : Value} {v : Int32} : AW d 241 26 [x0, x1, x2, .int v, x4, x5] (st) σ ρ g τ Q = AW d 241 27 [x0, x1, x2, .int v, x4, x5] (.int v :: st) σ ρ g τ Q := aw_lc m241 d241_26 rfl rfl rfl
theorem d241_27 : decode cX12_choice 27 = .ok (.sipush (-999), 3) := by decide +kernel
theorem s241_27 {d : Nat} {st : List Value} {σ : am_I} {ρ : am_R} {g : am_J} {τ : am_T} {Q : am_Q} {x0 x1 x2 x3 x4 x5 : Value} : AW d 241 27 [x0, x1, x2, x3, x4, x5] (st) σ ρ g τ Q = AW d 241 30 [x0, x1, x2, x3, x4, x5] (.int (-999) :: st) σ ρ g τ Q := aw_lc m241 d241_27 rfl rfl rfl
theorem d241_30 : decode cX12_choice 30 = .ok (.sipush 999, 3) := by decide +kernel
theorem s241_30 {d : Nat} {st : List Value} {σ : am_I} {ρ : am_R} {g : am_J} {τ : am_T} {Q : am_Q} {x0 x1 x2 x3 x4 x5 : Value} : AW d 241 30 [x0, x1, x2, x3, x4, x5] (st) σ ρ g τ Q = AW d 241 33 [x0, x1, x2, x3, x4, x5] (.int 999 :: st) σ ρ g τ Q := aw_lc m241 d241_30 rfl rfl rfl
theorem d241_33 : decode cX12_choice 33 = .ok (.invokestatic 194, 3) := by decide +kernel
theorem s241_33 {d : Nat} {st : List Value} {σ : am_I} {ρ : am_R} {g : am_J} {τ : am_T} {Q : am_Q} {x0 x1 x2 x3 x4 x5 : Value} {p0 : Int32} {p1 : Int32} {p2 : Int32} (hs : st.length ≤ 4) : AW (d + 1) 241 33 [x0, x1, x2, x3, x4, x5] (.int p2 :: .int p1 :: .int p0 :: st) σ ρ g τ Q = AW d 165 0 [.int p0, .int p1, .int p2] [] σ ρ g τ (fun r9 σ ρ g τ => AW (d + 1) 241 36 [x0, x1, x2, x3, x4, x5] (r9.toList ++ st) σ ρ g τ Q) := aw_cs m241 d241_33 rfl (by simp only [List.length_cons]; omega) rfl rfl en165 ok165 rfl hs
theorem d241_36 : decode cX12_choice 36 = .ok (.ifCond .eq 14, 3) := by decide +kernel
theorem s241_36 {d : Nat} {st : List Value} {σ : am_I} {ρ : am_R} {g : am_J} {τ : am_T} {Q : am_Q} {x0 x1 x2 x3 x4 x5 : Value} {v : Int32} : AW d 241 36 [x0, x1, x2, x3, x4, x5] (.int v :: st) σ ρ g τ Q = if v = 0 then AW d 241 50 [x0, x1, x2, x3, x4, x5] (st) σ ρ g τ Q else AW d 241 39 [x0, x1, x2, x3, x4, x5] (st) σ ρ g τ Q := aw_br m241 d241_36 rfl rfl rfl
theorem d241_39 : decode cX12_choice 39 = .ok (.iload 4, 2) := by decide +kernel
theorem s241_39 {d : Nat} {st : List Value} {σ : am_I} {ρ : am_R} {g : am_J} {τ : am_T} {Q : am_Q} {x0 x1 x2 x3 x5 : Value} {v : Int32} : AW d 241 39 [x0, x1, x2, x3, .int v, x5] (st) σ ρ g τ Q = AW d 241 41 [x0, x1, x2, x3, .int v, x5] (.int v :: st) σ ρ g τ Q := aw_lc m241 d241_39 rfl rfl rfl
theorem d241_41 : decode cX12_choice 41 = .ok (.iconst 0, 1) := by decide +kernel
theorem s241_41 {d : Nat} {st : List Value} {σ : am_I} {ρ : am_R} {g : am_J} {τ : am_T} {Q : am_Q} {x0 x1 x2 x3 x4 x5 : Value} : AW d 241 41 [x0, x1, x2, x3, x4, x5] (st) σ ρ g τ Q = AW d 241 42 [x0, x1, x2, x3, x4, x5] (.int 0 :: st) σ ρ g τ Q := aw_lc m241 d241_41 rfl rfl rfl
theorem d241_42 : decode cX12_choice 42 = .ok (.bipush 9, 2) := by decide +kernel
theorem s241_42 {d : Nat} {st : List Value} {σ : am_I} {ρ : am_R} {g : am_J} {τ : am_T} {Q : am_Q} {x0 x1 x2 x3 x4 x5 : Value} : AW d 241 42 [x0, x1, x2, x3, x4, x5] (st) σ ρ g τ Q = AW d 241 44 [x0, x1, x2, x3, x4, x5] (.int 9 :: st) σ ρ g τ Q := aw_lc m241 d241_42 rfl rfl rfl
theorem d241_44 : decode cX12_choice 44 = .ok (.invokestatic 194, 3) := by decide +kernel
theorem s241_44 {d : Nat} {st : List Value} {σ : am_I} {ρ : am_R} {g : am_J} {τ : am_T} {Q : am_Q} {x0 x1 x2 x3 x4 x5 : Value} {p0 : Int32} {p1 : Int32} {p2 : Int32} (hs : st.length ≤ 4) : AW (d + 1) 241 44 [x0, x1, x2, x3, x4, x5] (.int p2 :: .int p1 :: .int p0 :: st) σ ρ g τ Q = AW d 165 0 [.int p0, .int p1, .int p2] [] σ ρ g τ (fun r9 σ ρ g τ => AW (d + 1) 241 47 [x0, x1, x2, x3, x4, x5] (r9.toList ++ st) σ ρ g τ Q) := aw_cs m241 d241_44 rfl (by simp only [List.length_cons]; omega) rfl rfl en165 ok165 rfl hs
theorem d241_47 : decode cX12_choice 47 = .ok (.ifCond .ne 5, 3) := by decide +kernel
theorem s241_47 {d : Nat} {st : List Value} {σ : am_I} {ρ : am_R} {g : am_J} {τ : am_T} {Q : am_Q} {x0 x1 x2 x3 x4 x5 : Value} {v : Int32} : AW d 241 47 [x0, x1, x2, x3, x4, x5] (.int v :: st) σ ρ g τ Q = if ¬ v = 0 then AW d 241 52 [x0, x1, x2, x3, x4, x5] (st) σ ρ g τ Q else AW d 241 50 [x0, x1, x2, x3, x4, x5] (st) σ ρ g τ Q := aw_br m241 d241_47 rfl rfl rfl
theorem d241_50 : decode cX12_choice 50 = .ok (.iconst (-1), 1) := by decide +kernel
theorem s241_50 {d : Nat} {st : List Value} {σ : am_I} {ρ : am_R} {g : am_J} {τ : am_T} {Q : am_Q} {x0 x1 x2 x3 x4 x5 : Value} : AW d 241 50 [x0, x1, x2, x3, x4, x5] (st) σ ρ g τ Q = AW d 241 51 [x0, x1, x2, x3, x4, x5] (.int (-1) :: st) σ ρ g τ Q := aw_lc m241 d241_50 rfl rfl rfl
theorem d241_51 : decode cX12_choice 51 = .ok (.ireturn, 1) := by decide +kernel
theorem s241_51 {d : Nat} {σ : am_I} {ρ : am_R} {g : am_J} {τ : am_T} {Q : am_Q} {x0 x1 x2 x3 x4 x5 : Value} {v : Int32} : AW d 241 51 [x0, x1, x2, x3, x4, x5] ([.int v]) σ ρ g τ Q = Q (some (.int v)) σ ρ g τ := aw_ri m241 d241_51 rfl
theorem d241_52 : decode cX12_choice 52 = .ok (.aload_n 0, 1) := by decide +kernel
theorem s241_52 {d : Nat} {st : List Value} {σ : am_I} {ρ : am_R} {g : am_J} {τ : am_T} {Q : am_Q} {x1 x2 x3 x4 x5 : Value} {v : Nat} : AW d 241 52 [.ref v, x1, x2, x3, x4, x5] (st) σ ρ g τ Q = AW d 241 53 [.ref v, x1, x2, x3, x4, x5] (.ref v :: st) σ ρ g τ Q := aw_lc m241 d241_52 rfl rfl rfl
theorem d241_53 : decode cX12_choice 53 = .ok (.getfield 9, 3) := by decide +kernel
theorem s241_53 {d : Nat} {st : List Value} {σ : am_I} {ρ : am_R} {g : am_J} {τ : am_T} {Q : am_Q} {x0 x1 x2 x3 x4 x5 : Value} {a : Nat} (ht : τ.1 a = 12) : AW d 241 53 [x0, x1, x2, x3, x4, x5] (.ref a :: st) σ ρ g τ Q = AW d 241 56 [x0, x1, x2, x3, x4, x5] (va_rf (ρ a 0) :: st) σ ρ g τ Q := aw_gr m241 d241_53 rfl rfl rfl ht
theorem d241_56 : decode cX12_choice 56 = .ok (.bipush 7, 2) := by decide +kernel
theorem s241_56 {d : Nat} {st : List Value} {σ : am_I} {ρ : am_R} {g : am_J} {τ : am_T} {Q : am_Q} {x0 x1 x2 x3 x4 x5 : Value} : AW d 241 56 [x0, x1, x2, x3, x4, x5] (st) σ ρ g τ Q = AW d 241 58 [x0, x1, x2, x3, x4, x5] (.int 7 :: st) σ ρ g τ Q := aw_lc m241 d241_56 rfl rfl rfl
theorem d241_58 : decode cX12_choice 58 = .ok (.iaload, 1) := by decide +kernel
theorem s241_58 {d : Nat} {st : List Value} {σ : am_I} {ρ : am_R} {g : am_J} {τ : am_T} {Q : am_Q} {x0 x1 x2 x3 x4 x5 : Value} {a : Nat} {j : Int32} (ht : τ.1 a = 15) (hj : am_inb j (τ.2.1 a) = true) : AW d 241 58 [x0, x1, x2, x3, x4, x5] (.int j :: .ref a :: st) σ ρ g τ Q = AW d 241 59 [x0, x1, x2, x3, x4, x5] (.int (σ a j.toNatClampNeg) :: st) σ ρ g τ Q := aw_ial m241 d241_58 rfl ht hj
theorem d241_59 : decode cX12_choice 59 = .ok (.bipush 8, 2) := by decide +kernel
theorem s241_59 {d : Nat} {st : List Value} {σ : am_I} {ρ : am_R} {g : am_J} {τ : am_T} {Q : am_Q} {x0 x1 x2 x3 x4 x5 : Value} : AW d 241 59 [x0, x1, x2, x3, x4, x5] (st) σ ρ g τ Q = AW d 241 61 [x0, x1, x2, x3, x4, x5] (.int 8 :: st) σ ρ g τ Q := aw_lc m241 d241_59 rfl rfl rfl
theorem d241_61 : decode cX12_choice 61 = .ok (.if_icmp .ne 6, 3) := by decide +kernel
theorem s241_61 {d : Nat} {st : List Value} {σ : am_I} {ρ : am_R} {g : am_J} {τ : am_T} {Q : am_Q} {x0 x1 x2 x3 x4 x5 : Value} {v w : Int32} : AW d 241 61 [x0, x1, x2, x3, x4, x5] (.int w :: .int v :: st) σ ρ g τ Q = if ¬ v = w then AW d 241 67 [x0, x1, x2, x3, x4, x5] (st) σ ρ g τ Q else AW d 241 64 [x0, x1, x2, x3, x4, x5] (st) σ ρ g τ Q := aw_br m241 d241_61 rfl rfl rfl
theorem d241_64 : decode cX12_choice 64 = .ok (.bipush (-2), 2) := by decide +kernel
theorem s241_64 {d : Nat} {st : List Value} {σ : am_I} {ρ : am_R} {g : am_J} {τ : am_T} {Q : am_Q} {x0 x1 x2 x3 x4 x5 : Value} : AW d 241 64 [x0, x1, x2, x3, x4, x5] (st) σ ρ g τ Q = AW d 241 66 [x0, x1, x2, x3, x4, x5] (.int (-2) :: st) σ ρ g τ Q := aw_lc m241 d241_64 rfl rfl rfl
theorem d241_66 : decode cX12_choice 66 = .ok (.ireturn, 1) := by decide +kernel
theorem s241_66 {d : Nat} {σ : am_I} {ρ : am_R} {g : am_J} {τ : am_T} {Q : am_Q} {x0 x1 x2 x3 x4 x5 : Value} {v : Int32} : AW d 241 66 [x0, x1, x2, x3, x4, x5] ([.int v]) σ ρ g τ Q = Q (some (.int v)) σ ρ g τ := aw_ri m241 d241_66 rfl
theorem d241_67 : decode cX12_choice 67 = .ok (.aload_n 0, 1) := by decide +kernel
theorem s241_67 {d : Nat} {st : List Value} {σ : am_I} {ρ : am_R} {g : am_J} {τ : am_T} {Q : am_Q} {x1 x2 x3 x4 x5 : Value} {v : Nat} : AW d 241 67 [.ref v, x1, x2, x3, x4, x5] (st) σ ρ g τ Q = AW d 241 68 [.ref v, x1, x2, x3, x4, x5] (.ref v :: st) σ ρ g τ Q := aw_lc m241 d241_67 rfl rfl rfl
theorem d241_68 : decode cX12_choice 68 = .ok (.getfield 9, 3) := by decide +kernel
theorem s241_68 {d : Nat} {st : List Value} {σ : am_I} {ρ : am_R} {g : am_J} {τ : am_T} {Q : am_Q} {x0 x1 x2 x3 x4 x5 : Value} {a : Nat} (ht : τ.1 a = 12) : AW d 241 68 [x0, x1, x2, x3, x4, x5] (.ref a :: st) σ ρ g τ Q = AW d 241 71 [x0, x1, x2, x3, x4, x5] (va_rf (ρ a 0) :: st) σ ρ g τ Q := aw_gr m241 d241_68 rfl rfl rfl ht
theorem d241_71 : decode cX12_choice 71 = .ok (.bipush 7, 2) := by decide +kernel
theorem s241_71 {d : Nat} {st : List Value} {σ : am_I} {ρ : am_R} {g : am_J} {τ : am_T} {Q : am_Q} {x0 x1 x2 x3 x4 x5 : Value} : AW d 241 71 [x0, x1, x2, x3, x4, x5] (st) σ ρ g τ Q = AW d 241 73 [x0, x1, x2, x3, x4, x5] (.int 7 :: st) σ ρ g τ Q := aw_lc m241 d241_71 rfl rfl rfl
theorem d241_73 : decode cX12_choice 73 = .ok (.iaload, 1) := by decide +kernel
theorem s241_73 {d : Nat} {st : List Value} {σ : am_I} {ρ : am_R} {g : am_J} {τ : am_T} {Q : am_Q} {x0 x1 x2 x3 x4 x5 : Value} {a : Nat} {j : Int32} (ht : τ.1 a = 15) (hj : am_inb j (τ.2.1 a) = true) : AW d 241 73 [x0, x1, x2, x3, x4, x5] (.int j :: .ref a :: st) σ ρ g τ Q = AW d 241 74 [x0, x1, x2, x3, x4, x5] (.int (σ a j.toNatClampNeg) :: st) σ ρ g τ Q := aw_ial m241 d241_73 rfl ht hj
theorem d241_74 : decode cX12_choice 74 = .ok (.istore 5, 2) := by decide +kernel
theorem s241_74 {d : Nat} {st : List Value} {σ : am_I} {ρ : am_R} {g : am_J} {τ : am_T} {Q : am_Q} {x0 x1 x2 x3 x5 : Value} {v : Int32} {u : Int32} : AW d 241 74 [x0, x1, x2, x3, .int u, x5] (.int v :: st) σ ρ g τ Q = AW d 241 76 [x0, x1, x2, x3, .int u, .int v] (st) σ ρ g τ Q := aw_lc m241 d241_74 rfl rfl rfl
theorem d241_76 : decode cX12_choice 76 = .ok (.aload_n 0, 1) := by decide +kernel
theorem s241_76 {d : Nat} {st : List Value} {σ : am_I} {ρ : am_R} {g : am_J} {τ : am_T} {Q : am_Q} {x1 x2 x3 x4 x5 : Value} {v : Nat} : AW d 241 76 [.ref v, x1, x2, x3, x4, x5] (st) σ ρ g τ Q = AW d 241 77 [.ref v, x1, x2, x3, x4, x5] (.ref v :: st) σ ρ g τ Q := aw_lc m241 d241_76 rfl rfl rfl
theorem d241_77 : decode cX12_choice 77 = .ok (.getfield 124, 3) := by decide +kernel
theorem s241_77 {d : Nat} {st : List Value} {σ : am_I} {ρ : am_R} {g : am_J} {τ : am_T} {Q : am_Q} {x0 x1 x2 x3 x4 x5 : Value} {a : Nat} (ht : τ.1 a = 12) : AW d 241 77 [x0, x1, x2, x3, x4, x5] (.ref a :: st) σ ρ g τ Q = AW d 241 80 [x0, x1, x2, x3, x4, x5] (va_rf (ρ a 38) :: st) σ ρ g τ Q := aw_gr m241 d241_77 rfl rfl rfl ht
theorem d241_80 : decode cX12_choice 80 = .ok (.iconst 3, 1) := by decide +kernel
theorem s241_80 {d : Nat} {st : List Value} {σ : am_I} {ρ : am_R} {g : am_J} {τ : am_T} {Q : am_Q} {x0 x1 x2 x3 x4 x5 : Value} : AW d 241 80 [x0, x1, x2, x3, x4, x5] (st) σ ρ g τ Q = AW d 241 81 [x0, x1, x2, x3, x4, x5] (.int 3 :: st) σ ρ g τ Q := aw_lc m241 d241_80 rfl rfl rfl
theorem d241_81 : decode cX12_choice 81 = .ok (.iload 5, 2) := by decide +kernel
theorem s241_81 {d : Nat} {st : List Value} {σ : am_I} {ρ : am_R} {g : am_J} {τ : am_T} {Q : am_Q} {x0 x1 x2 x3 x4 : Value} {v : Int32} : AW d 241 81 [x0, x1, x2, x3, x4, .int v] (st) σ ρ g τ Q = AW d 241 83 [x0, x1, x2, x3, x4, .int v] (.int v :: st) σ ρ g τ Q := aw_lc m241 d241_81 rfl rfl rfl
theorem d241_83 : decode cX12_choice 83 = .ok (.imul, 1) := by decide +kernel
theorem s241_83 {d : Nat} {st : List Value} {σ : am_I} {ρ : am_R} {g : am_J} {τ : am_T} {Q : am_Q} {x0 x1 x2 x3 x4 x5 : Value} {v w : Int32} : AW d 241 83 [x0, x1, x2, x3, x4, x5] (.int w :: .int v :: st) σ ρ g τ Q = AW d 241 84 [x0, x1, x2, x3, x4, x5] (.int (v * w) :: st) σ ρ g τ Q := aw_lc m241 d241_83 rfl rfl rfl
theorem d241_84 : decode cX12_choice 84 = .ok (.iload_n 1, 1) := by decide +kernel
theorem s241_84 {d : Nat} {st : List Value} {σ : am_I} {ρ : am_R} {g : am_J} {τ : am_T} {Q : am_Q} {x0 x2 x3 x4 x5 : Value} {v : Int32} : AW d 241 84 [x0, .int v, x2, x3, x4, x5] (st) σ ρ g τ Q = AW d 241 85 [x0, .int v, x2, x3, x4, x5] (.int v :: st) σ ρ g τ Q := aw_lc m241 d241_84 rfl rfl rfl
theorem d241_85 : decode cX12_choice 85 = .ok (.iastore, 1) := by decide +kernel
theorem s241_85 {d : Nat} {st : List Value} {σ : am_I} {ρ : am_R} {g : am_J} {τ : am_T} {Q : am_Q} {x0 x1 x2 x3 x4 x5 : Value} {a : Nat} {j v : Int32} (ht : τ.1 a = 15) (ha : a < am_BG) (hj : am_inb j (τ.2.1 a) = true) : AW d 241 85 [x0, x1, x2, x3, x4, x5] (.int v :: .int j :: .ref a :: st) σ ρ g τ Q = AW d 241 86 [x0, x1, x2, x3, x4, x5] (st) (am_u σ a j.toNatClampNeg v) ρ g τ Q := aw_ias m241 d241_85 rfl ht ha hj
theorem d241_86 : decode cX12_choice 86 = .ok (.aload_n 0, 1) := by decide +kernel
theorem s241_86 {d : Nat} {st : List Value} {σ : am_I} {ρ : am_R} {g : am_J} {τ : am_T} {Q : am_Q} {x1 x2 x3 x4 x5 : Value} {v : Nat} : AW d 241 86 [.ref v, x1, x2, x3, x4, x5] (st) σ ρ g τ Q = AW d 241 87 [.ref v, x1, x2, x3, x4, x5] (.ref v :: st) σ ρ g τ Q := aw_lc m241 d241_86 rfl rfl rfl
theorem d241_87 : decode cX12_choice 87 = .ok (.getfield 124, 3) := by decide +kernel
theorem s241_87 {d : Nat} {st : List Value} {σ : am_I} {ρ : am_R} {g : am_J} {τ : am_T} {Q : am_Q} {x0 x1 x2 x3 x4 x5 : Value} {a : Nat} (ht : τ.1 a = 12) : AW d 241 87 [x0, x1, x2, x3, x4, x5] (.ref a :: st) σ ρ g τ Q = AW d 241 90 [x0, x1, x2, x3, x4, x5] (va_rf (ρ a 38) :: st) σ ρ g τ Q := aw_gr m241 d241_87 rfl rfl rfl ht
theorem d241_90 : decode cX12_choice 90 = .ok (.iconst 3, 1) := by decide +kernel
theorem s241_90 {d : Nat} {st : List Value} {σ : am_I} {ρ : am_R} {g : am_J} {τ : am_T} {Q : am_Q} {x0 x1 x2 x3 x4 x5 : Value} : AW d 241 90 [x0, x1, x2, x3, x4, x5] (st) σ ρ g τ Q = AW d 241 91 [x0, x1, x2, x3, x4, x5] (.int 3 :: st) σ ρ g τ Q := aw_lc m241 d241_90 rfl rfl rfl
theorem d241_91 : decode cX12_choice 91 = .ok (.iload 5, 2) := by decide +kernel
theorem s241_91 {d : Nat} {st : List Value} {σ : am_I} {ρ : am_R} {g : am_J} {τ : am_T} {Q : am_Q} {x0 x1 x2 x3 x4 : Value} {v : Int32} : AW d 241 91 [x0, x1, x2, x3, x4, .int v] (st) σ ρ g τ Q = AW d 241 93 [x0, x1, x2, x3, x4, .int v] (.int v :: st) σ ρ g τ Q := aw_lc m241 d241_91 rfl rfl rfl
theorem d241_93 : decode cX12_choice 93 = .ok (.imul, 1) := by decide +kernel
theorem s241_93 {d : Nat} {st : List Value} {σ : am_I} {ρ : am_R} {g : am_J} {τ : am_T} {Q : am_Q} {x0 x1 x2 x3 x4 x5 : Value} {v w : Int32} : AW d 241 93 [x0, x1, x2, x3, x4, x5] (.int w :: .int v :: st) σ ρ g τ Q = AW d 241 94 [x0, x1, x2, x3, x4, x5] (.int (v * w) :: st) σ ρ g τ Q := aw_lc m241 d241_93 rfl rfl rfl
theorem d241_94 : decode cX12_choice 94 = .ok (.iconst 1, 1) := by decide +kernel
theorem s241_94 {d : Nat} {st : List Value} {σ : am_I} {ρ : am_R} {g : am_J} {τ : am_T} {Q : am_Q} {x0 x1 x2 x3 x4 x5 : Value} : AW d 241 94 [x0, x1, x2, x3, x4, x5] (st) σ ρ g τ Q = AW d 241 95 [x0, x1, x2, x3, x4, x5] (.int 1 :: st) σ ρ g τ Q := aw_lc m241 d241_94 rfl rfl rfl
theorem d241_95 : decode cX12_choice 95 = .ok (.iadd, 1) := by decide +kernel
theorem s241_95 {d : Nat} {st : List Value} {σ : am_I} {ρ : am_R} {g : am_J} {τ : am_T} {Q : am_Q} {x0 x1 x2 x3 x4 x5 : Value} {v w : Int32} : AW d 241 95 [x0, x1, x2, x3, x4, x5] (.int w :: .int v :: st) σ ρ g τ Q = AW d 241 96 [x0, x1, x2, x3, x4, x5] (.int (v + w) :: st) σ ρ g τ Q := aw_lc m241 d241_95 rfl rfl rfl
theorem d241_96 : decode cX12_choice 96 = .ok (.iload_n 2, 1) := by decide +kernel
theorem s241_96 {d : Nat} {st : List Value} {σ : am_I} {ρ : am_R} {g : am_J} {τ : am_T} {Q : am_Q} {x0 x1 x3 x4 x5 : Value} {v : Int32} : AW d 241 96 [x0, x1, .int v, x3, x4, x5] (st) σ ρ g τ Q = AW d 241 97 [x0, x1, .int v, x3, x4, x5] (.int v :: st) σ ρ g τ Q := aw_lc m241 d241_96 rfl rfl rfl
theorem d241_97 : decode cX12_choice 97 = .ok (.iastore, 1) := by decide +kernel
theorem s241_97 {d : Nat} {st : List Value} {σ : am_I} {ρ : am_R} {g : am_J} {τ : am_T} {Q : am_Q} {x0 x1 x2 x3 x4 x5 : Value} {a : Nat} {j v : Int32} (ht : τ.1 a = 15) (ha : a < am_BG) (hj : am_inb j (τ.2.1 a) = true) : AW d 241 97 [x0, x1, x2, x3, x4, x5] (.int v :: .int j :: .ref a :: st) σ ρ g τ Q = AW d 241 98 [x0, x1, x2, x3, x4, x5] (st) (am_u σ a j.toNatClampNeg v) ρ g τ Q := aw_ias m241 d241_97 rfl ht ha hj
theorem d241_98 : decode cX12_choice 98 = .ok (.aload_n 0, 1) := by decide +kernel
theorem s241_98 {d : Nat} {st : List Value} {σ : am_I} {ρ : am_R} {g : am_J} {τ : am_T} {Q : am_Q} {x1 x2 x3 x4 x5 : Value} {v : Nat} : AW d 241 98 [.ref v, x1, x2, x3, x4, x5] (st) σ ρ g τ Q = AW d 241 99 [.ref v, x1, x2, x3, x4, x5] (.ref v :: st) σ ρ g τ Q := aw_lc m241 d241_98 rfl rfl rfl
theorem d241_99 : decode cX12_choice 99 = .ok (.getfield 124, 3) := by decide +kernel
theorem s241_99 {d : Nat} {st : List Value} {σ : am_I} {ρ : am_R} {g : am_J} {τ : am_T} {Q : am_Q} {x0 x1 x2 x3 x4 x5 : Value} {a : Nat} (ht : τ.1 a = 12) : AW d 241 99 [x0, x1, x2, x3, x4, x5] (.ref a :: st) σ ρ g τ Q = AW d 241 102 [x0, x1, x2, x3, x4, x5] (va_rf (ρ a 38) :: st) σ ρ g τ Q := aw_gr m241 d241_99 rfl rfl rfl ht
theorem d241_102 : decode cX12_choice 102 = .ok (.iconst 3, 1) := by decide +kernel
theorem s241_102 {d : Nat} {st : List Value} {σ : am_I} {ρ : am_R} {g : am_J} {τ : am_T} {Q : am_Q} {x0 x1 x2 x3 x4 x5 : Value} : AW d 241 102 [x0, x1, x2, x3, x4, x5] (st) σ ρ g τ Q = AW d 241 103 [x0, x1, x2, x3, x4, x5] (.int 3 :: st) σ ρ g τ Q := aw_lc m241 d241_102 rfl rfl rfl
theorem d241_103 : decode cX12_choice 103 = .ok (.iload 5, 2) := by decide +kernel
theorem s241_103 {d : Nat} {st : List Value} {σ : am_I} {ρ : am_R} {g : am_J} {τ : am_T} {Q : am_Q} {x0 x1 x2 x3 x4 : Value} {v : Int32} : AW d 241 103 [x0, x1, x2, x3, x4, .int v] (st) σ ρ g τ Q = AW d 241 105 [x0, x1, x2, x3, x4, .int v] (.int v :: st) σ ρ g τ Q := aw_lc m241 d241_103 rfl rfl rfl
theorem d241_105 : decode cX12_choice 105 = .ok (.imul, 1) := by decide +kernel
theorem s241_105 {d : Nat} {st : List Value} {σ : am_I} {ρ : am_R} {g : am_J} {τ : am_T} {Q : am_Q} {x0 x1 x2 x3 x4 x5 : Value} {v w : Int32} : AW d 241 105 [x0, x1, x2, x3, x4, x5] (.int w :: .int v :: st) σ ρ g τ Q = AW d 241 106 [x0, x1, x2, x3, x4, x5] (.int (v * w) :: st) σ ρ g τ Q := aw_lc m241 d241_105 rfl rfl rfl
theorem d241_106 : decode cX12_choice 106 = .ok (.iconst 2, 1) := by decide +kernel
theorem s241_106 {d : Nat} {st : List Value} {σ : am_I} {ρ : am_R} {g : am_J} {τ : am_T} {Q : am_Q} {x0 x1 x2 x3 x4 x5 : Value} : AW d 241 106 [x0, x1, x2, x3, x4, x5] (st) σ ρ g τ Q = AW d 241 107 [x0, x1, x2, x3, x4, x5] (.int 2 :: st) σ ρ g τ Q := aw_lc m241 d241_106 rfl rfl rfl
theorem d241_107 : decode cX12_choice 107 = .ok (.iadd, 1) := by decide +kernel
theorem s241_107 {d : Nat} {st : List Value} {σ : am_I} {ρ : am_R} {g : am_J} {τ : am_T} {Q : am_Q} {x0 x1 x2 x3 x4 x5 : Value} {v w : Int32} : AW d 241 107 [x0, x1, x2, x3, x4, x5] (.int w :: .int v :: st) σ ρ g τ Q = AW d 241 108 [x0, x1, x2, x3, x4, x5] (.int (v + w) :: st) σ ρ g τ Q := aw_lc m241 d241_107 rfl rfl rfl
theorem d241_108 : decode cX12_choice 108 = .ok (.iload_n 3, 1) := by decide +kernel
theorem s241_108 {d : Nat} {st : List Value} {σ : am_I} {ρ : am_R} {g : am_J} {τ : am_T} {Q : am_Q} {x0 x1 x2 x4 x5 : Value} {v : Int32} : AW d 241 108 [x0, x1, x2, .int v, x4, x5] (st) σ ρ g τ Q = AW d 241 109 [x0, x1, x2, .int v, x4, x5] (.int v :: st) σ ρ g τ Q := aw_lc m241 d241_108 rfl rfl rfl
theorem d241_109 : decode cX12_choice 109 = .ok (.iastore, 1) := by decide +kernel
theorem s241_109 {d : Nat} {st : List Value} {σ : am_I} {ρ : am_R} {g : am_J} {τ : am_T} {Q : am_Q} {x0 x1 x2 x3 x4 x5 : Value} {a : Nat} {j v : Int32} (ht : τ.1 a = 15) (ha : a < am_BG) (hj : am_inb j (τ.2.1 a) = true) : AW d 241 109 [x0, x1, x2, x3, x4, x5] (.int v :: .int j :: .ref a :: st) σ ρ g τ Q = AW d 241 110 [x0, x1, x2, x3, x4, x5] (st) (am_u σ a j.toNatClampNeg v) ρ g τ Q := aw_ias m241 d241_109 rfl ht ha hj
theorem d241_110 : decode cX12_choice 110 = .ok (.aload_n 0, 1) := by decide +kernel
theorem s241_110 {d : Nat} {st : List Value} {σ : am_I} {ρ : am_R} {g : am_J} {τ : am_T} {Q : am_Q} {x1 x2 x3 x4 x5 : Value} {v : Nat} : AW d 241 110 [.ref v, x1, x2, x3, x4, x5] (st) σ ρ g τ Q = AW d 241 111 [.ref v, x1, x2, x3, x4, x5] (.ref v :: st) σ ρ g τ Q := aw_lc m241 d241_110 rfl rfl rfl
theorem d241_111 : decode cX12_choice 111 = .ok (.getfield 127, 3) := by decide +kernel
theorem s241_111 {d : Nat} {st : List Value} {σ : am_I} {ρ : am_R} {g : am_J} {τ : am_T} {Q : am_Q} {x0 x1 x2 x3 x4 x5 : Value} {a : Nat} (ht : τ.1 a = 12) : AW d 241 111 [x0, x1, x2, x3, x4, x5] (.ref a :: st) σ ρ g τ Q = AW d 241 114 [x0, x1, x2, x3, x4, x5] (va_rf (ρ a 39) :: st) σ ρ g τ Q := aw_gr m241 d241_111 rfl rfl rfl ht
theorem d241_114 : decode cX12_choice 114 = .ok (.iload 5, 2) := by decide +kernel
theorem s241_114 {d : Nat} {st : List Value} {σ : am_I} {ρ : am_R} {g : am_J} {τ : am_T} {Q : am_Q} {x0 x1 x2 x3 x4 : Value} {v : Int32} : AW d 241 114 [x0, x1, x2, x3, x4, .int v] (st) σ ρ g τ Q = AW d 241 116 [x0, x1, x2, x3, x4, .int v] (.int v :: st) σ ρ g τ Q := aw_lc m241 d241_114 rfl rfl rfl
theorem d241_116 : decode cX12_choice 116 = .ok (.iload 4, 2) := by decide +kernel
theorem s241_116 {d : Nat} {st : List Value} {σ : am_I} {ρ : am_R} {g : am_J} {τ : am_T} {Q : am_Q} {x0 x1 x2 x3 x5 : Value} {v : Int32} : AW d 241 116 [x0, x1, x2, x3, .int v, x5] (st) σ ρ g τ Q = AW d 241 118 [x0, x1, x2, x3, .int v, x5] (.int v :: st) σ ρ g τ Q := aw_lc m241 d241_116 rfl rfl rfl
theorem d241_118 : decode cX12_choice 118 = .ok (.iastore, 1) := by decide +kernel
theorem s241_118 {d : Nat} {st : List Value} {σ : am_I} {ρ : am_R} {g : am_J} {τ : am_T} {Q : am_Q} {x0 x1 x2 x3 x4 x5 : Value} {a : Nat} {j v : Int32} (ht : τ.1 a = 15) (ha : a < am_BG) (hj : am_inb j (τ.2.1 a) = true) : AW d 241 118 [x0, x1, x2, x3, x4, x5] (.int v :: .int j :: .ref a :: st) σ ρ g τ Q = AW d 241 119 [x0, x1, x2, x3, x4, x5] (st) (am_u σ a j.toNatClampNeg v) ρ g τ Q := aw_ias m241 d241_118 rfl ht ha hj
theorem d241_119 : decode cX12_choice 119 = .ok (.aload_n 0, 1) := by decide +kernel
theorem s241_119 {d : Nat} {st : List Value} {σ : am_I} {ρ : am_R} {g : am_J} {τ : am_T} {Q : am_Q} {x1 x2 x3 x4 x5 : Value} {v : Nat} : AW d 241 119 [.ref v, x1, x2, x3, x4, x5] (st) σ ρ g τ Q = AW d 241 120 [.ref v, x1, x2, x3, x4, x5] (.ref v :: st) σ ρ g τ Q := aw_lc m241 d241_119 rfl rfl rfl
theorem d241_120 : decode cX12_choice 120 = .ok (.getfield 9, 3) := by decide +kernel
theorem s241_120 {d : Nat} {st : List Value} {σ : am_I} {ρ : am_R} {g : am_J} {τ : am_T} {Q : am_Q} {x0 x1 x2 x3 x4 x5 : Value} {a : Nat} (ht : τ.1 a = 12) : AW d 241 120 [x0, x1, x2, x3, x4, x5] (.ref a :: st) σ ρ g τ Q = AW d 241 123 [x0, x1, x2, x3, x4, x5] (va_rf (ρ a 0) :: st) σ ρ g τ Q := aw_gr m241 d241_120 rfl rfl rfl ht
theorem d241_123 : decode cX12_choice 123 = .ok (.bipush 7, 2) := by decide +kernel
theorem s241_123 {d : Nat} {st : List Value} {σ : am_I} {ρ : am_R} {g : am_J} {τ : am_T} {Q : am_Q} {x0 x1 x2 x3 x4 x5 : Value} : AW d 241 123 [x0, x1, x2, x3, x4, x5] (st) σ ρ g τ Q = AW d 241 125 [x0, x1, x2, x3, x4, x5] (.int 7 :: st) σ ρ g τ Q := aw_lc m241 d241_123 rfl rfl rfl
theorem d241_125 : decode cX12_choice 125 = .ok (.dup2, 1) := by decide +kernel
theorem s241_125 {d : Nat} {st : List Value} {σ : am_I} {ρ : am_R} {g : am_J} {τ : am_T} {Q : am_Q} {x0 x1 x2 x3 x4 x5 : Value} {v : Int32} {w : Nat} : AW d 241 125 [x0, x1, x2, x3, x4, x5] (.int v :: .ref w :: st) σ ρ g τ Q = AW d 241 126 [x0, x1, x2, x3, x4, x5] (.int v :: .ref w :: .int v :: .ref w :: st) σ ρ g τ Q := aw_lc m241 d241_125 rfl rfl rfl
theorem d241_126 : decode cX12_choice 126 = .ok (.iaload, 1) := by decide +kernel
theorem s241_126 {d : Nat} {st : List Value} {σ : am_I} {ρ : am_R} {g : am_J} {τ : am_T} {Q : am_Q} {x0 x1 x2 x3 x4 x5 : Value} {a : Nat} {j : Int32} (ht : τ.1 a = 15) (hj : am_inb j (τ.2.1 a) = true) : AW d 241 126 [x0, x1, x2, x3, x4, x5] (.int j :: .ref a :: st) σ ρ g τ Q = AW d 241 127 [x0, x1, x2, x3, x4, x5] (.int (σ a j.toNatClampNeg) :: st) σ ρ g τ Q := aw_ial m241 d241_126 rfl ht hj
theorem d241_127 : decode cX12_choice 127 = .ok (.iconst 1, 1) := by decide +kernel
theorem s241_127 {d : Nat} {st : List Value} {σ : am_I} {ρ : am_R} {g : am_J} {τ : am_T} {Q : am_Q} {x0 x1 x2 x3 x4 x5 : Value} : AW d 241 127 [x0, x1, x2, x3, x4, x5] (st) σ ρ g τ Q = AW d 241 128 [x0, x1, x2, x3, x4, x5] (.int 1 :: st) σ ρ g τ Q := aw_lc m241 d241_127 rfl rfl rfl
theorem d241_128 : decode cX12_choice 128 = .ok (.iadd, 1) := by decide +kernel
theorem s241_128 {d : Nat} {st : List Value} {σ : am_I} {ρ : am_R} {g : am_J} {τ : am_T} {Q : am_Q} {x0 x1 x2 x3 x4 x5 : Value} {v w : Int32} : AW d 241 128 [x0, x1, x2, x3, x4, x5] (.int w :: .int v :: st) σ ρ g τ Q = AW d 241 129 [x0, x1, x2, x3, x4, x5] (.int (v + w) :: st) σ ρ g τ Q := aw_lc m241 d241_128 rfl rfl rfl
theorem d241_129 : decode cX12_choice 129 = .ok (.iastore, 1) := by decide +kernel
theorem s241_129 {d : Nat} {st : List Value} {σ : am_I} {ρ : am_R} {g : am_J} {τ : am_T} {Q : am_Q} {x0 x1 x2 x3 x4 x5 : Value} {a : Nat} {j v : Int32} (ht : τ.1 a = 15) (ha : a < am_BG) (hj : am_inb j (τ.2.1 a) = true) : AW d 241 129 [x0, x1, x2, x3, x4, x5] (.int v :: .int j :: .ref a :: st) σ ρ g τ Q = AW d 241 130 [x0, x1, x2, x3, x4, x5] (st) (am_u σ a j.toNatClampNeg v) ρ g τ Q := aw_ias m241 d241_129 rfl ht ha hj
theorem d241_130 : decode cX12_choice 130 = .ok (.iload 5, 2) := by decide +kernel
theorem s241_130 {d : Nat} {st : List Value} {σ : am_I} {ρ : am_R} {g : am_J} {τ : am_T} {Q : am_Q} {x0 x1 x2 x3 x4 : Value} {v : Int32} : AW d 241 130 [x0, x1, x2, x3, x4, .int v] (st) σ ρ g τ Q = AW d 241 132 [x0, x1, x2, x3, x4, .int v] (.int v :: st) σ ρ g τ Q := aw_lc m241 d241_130 rfl rfl rfl
theorem d241_132 : decode cX12_choice 132 = .ok (.ireturn, 1) := by decide +kernel
theorem s241_132 {d : Nat} {σ : am_I} {ρ : am_R} {g : am_J} {τ : am_T} {Q : am_Q} {x0 x1 x2 x3 x4 x5 : Value} {v : Int32} : AW d 241 132 [x0, x1, x2, x3, x4, x5] ([.int v]) σ ρ g τ Q = Q (some (.int v)) σ ρ g τ := aw_ri m241 d241_132 rfl
theorem d242_0 : decode cX12_leastYear 0 = .ok (.ldc_w 430, 3) := by decide +kernel
theorem s242_0 {d : Nat} {st : List Value} {σ : am_I} {ρ : am_R} {g : am_J} {τ : am_T} {Q : am_Q} {x0 x1 x2 x3 x4 x5 x6 : Value} : AW d 242 0 [x0, x1, x2, x3, x4, x5, x6] (st) σ ρ g τ Q = AW d 242 3 [x0, x1, x2, x3, x4, x5, x6] (.int 2147483647 :: st) σ ρ g τ Q := aw_lwi m242 d242_0 rfl rfl
theorem d242_3 : decode cX12_leastYear 3 = .ok (.istore_n 3, 1) := by decide +kernel
theorem s242_3 {d : Nat} {st : List Value} {σ : am_I} {ρ : am_R} {g : am_J} {τ : am_T} {Q : am_Q} {x0 x1 x3 x4 x5 x6 : Value} {v : Int32} {u : Int32} : AW d 242 3 [x0, x1, .int u, x3, x4, x5, x6] (.int v :: st) σ ρ g τ Q = AW d 242 4 [x0, x1, .int u, .int v, x4, x5, x6] (st) σ ρ g τ Q := aw_lc m242 d242_3 rfl rfl rfl
theorem d242_4 : decode cX12_leastYear 4 = .ok (.iconst 0, 1) := by decide +kernel
theorem s242_4 {d : Nat} {st : List Value} {σ : am_I} {ρ : am_R} {g : am_J} {τ : am_T} {Q : am_Q} {x0 x1 x2 x3 x4 x5 x6 : Value} : AW d 242 4 [x0, x1, x2, x3, x4, x5, x6] (st) σ ρ g τ Q = AW d 242 5 [x0, x1, x2, x3, x4, x5, x6] (.int 0 :: st) σ ρ g τ Q := aw_lc m242 d242_4 rfl rfl rfl
theorem d242_5 : decode cX12_leastYear 5 = .ok (.istore 4, 2) := by decide +kernel
theorem s242_5 {d : Nat} {st : List Value} {σ : am_I} {ρ : am_R} {g : am_J} {τ : am_T} {Q : am_Q} {x0 x1 x2 x4 x5 x6 : Value} {v : Int32} {u : Int32} : AW d 242 5 [x0, x1, x2, .int u, x4, x5, x6] (.int v :: st) σ ρ g τ Q = AW d 242 7 [x0, x1, x2, .int u, .int v, x5, x6] (st) σ ρ g τ Q := aw_lc m242 d242_5 rfl rfl rfl
theorem d242_7 : decode cX12_leastYear 7 = .ok (.iload 4, 2) := by decide +kernel
theorem s242_7 {d : Nat} {st : List Value} {σ : am_I} {ρ : am_R} {g : am_J} {τ : am_T} {Q : am_Q} {x0 x1 x2 x3 x5 x6 : Value} {v : Int32} : AW d 242 7 [x0, x1, x2, x3, .int v, x5, x6] (st) σ ρ g τ Q = AW d 242 9 [x0, x1, x2, x3, .int v, x5, x6] (.int v :: st) σ ρ g τ Q := aw_lc m242 d242_7 rfl rfl rfl
theorem d242_9 : decode cX12_leastYear 9 = .ok (.iconst 3, 1) := by decide +kernel
theorem s242_9 {d : Nat} {st : List Value} {σ : am_I} {ρ : am_R} {g : am_J} {τ : am_T} {Q : am_Q} {x0 x1 x2 x3 x4 x5 x6 : Value} : AW d 242 9 [x0, x1, x2, x3, x4, x5, x6] (st) σ ρ g τ Q = AW d 242 10 [x0, x1, x2, x3, x4, x5, x6] (.int 3 :: st) σ ρ g τ Q := aw_lc m242 d242_9 rfl rfl rfl
theorem d242_10 : decode cX12_leastYear 10 = .ok (.if_icmp .ge 61, 3) := by decide +kernel
theorem s242_10 {d : Nat} {st : List Value} {σ : am_I} {ρ : am_R} {g : am_J} {τ : am_T} {Q : am_Q} {x0 x1 x2 x3 x4 x5 x6 : Value} {v w : Int32} : AW d 242 10 [x0, x1, x2, x3, x4, x5, x6] (.int w :: .int v :: st) σ ρ g τ Q = if w ≤ v then AW d 242 71 [x0, x1, x2, x3, x4, x5, x6] (st) σ ρ g τ Q else AW d 242 13 [x0, x1, x2, x3, x4, x5, x6] (st) σ ρ g τ Q := aw_br m242 d242_10 rfl rfl rfl
theorem d242_13 : decode cX12_leastYear 13 = .ok (.iconst 0, 1) := by decide +kernel
theorem s242_13 {d : Nat} {st : List Value} {σ : am_I} {ρ : am_R} {g : am_J} {τ : am_T} {Q : am_Q} {x0 x1 x2 x3 x4 x5 x6 : Value} : AW d 242 13 [x0, x1, x2, x3, x4, x5, x6] (st) σ ρ g τ Q = AW d 242 14 [x0, x1, x2, x3, x4, x5, x6] (.int 0 :: st) σ ρ g τ Q := aw_lc m242 d242_13 rfl rfl rfl
theorem d242_14 : decode cX12_leastYear 14 = .ok (.istore 5, 2) := by decide +kernel
theorem s242_14 {d : Nat} {st : List Value} {σ : am_I} {ρ : am_R} {g : am_J} {τ : am_T} {Q : am_Q} {x0 x1 x2 x3 x5 x6 : Value} {v : Int32} {u : Int32} : AW d 242 14 [x0, x1, x2, x3, .int u, x5, x6] (.int v :: st) σ ρ g τ Q = AW d 242 16 [x0, x1, x2, x3, .int u, .int v, x6] (st) σ ρ g τ Q := aw_lc m242 d242_14 rfl rfl rfl
theorem d242_16 : decode cX12_leastYear 16 = .ok (.iconst 0, 1) := by decide +kernel
theorem s242_16 {d : Nat} {st : List Value} {σ : am_I} {ρ : am_R} {g : am_J} {τ : am_T} {Q : am_Q} {x0 x1 x2 x3 x4 x5 x6 : Value} : AW d 242 16 [x0, x1, x2, x3, x4, x5, x6] (st) σ ρ g τ Q = AW d 242 17 [x0, x1, x2, x3, x4, x5, x6] (.int 0 :: st) σ ρ g τ Q := aw_lc m242 d242_16 rfl rfl rfl
theorem d242_17 : decode cX12_leastYear 17 = .ok (.istore 6, 2) := by decide +kernel
theorem s242_17 {d : Nat} {st : List Value} {σ : am_I} {ρ : am_R} {g : am_J} {τ : am_T} {Q : am_Q} {x0 x1 x2 x3 x4 x6 : Value} {v : Int32} {u : Int32} : AW d 242 17 [x0, x1, x2, x3, x4, .int u, x6] (.int v :: st) σ ρ g τ Q = AW d 242 19 [x0, x1, x2, x3, x4, .int u, .int v] (st) σ ρ g τ Q := aw_lc m242 d242_17 rfl rfl rfl
theorem d242_19 : decode cX12_leastYear 19 = .ok (.iload 6, 2) := by decide +kernel
theorem s242_19 {d : Nat} {st : List Value} {σ : am_I} {ρ : am_R} {g : am_J} {τ : am_T} {Q : am_Q} {x0 x1 x2 x3 x4 x5 : Value} {v : Int32} : AW d 242 19 [x0, x1, x2, x3, x4, x5, .int v] (st) σ ρ g τ Q = AW d 242 21 [x0, x1, x2, x3, x4, x5, .int v] (.int v :: st) σ ρ g τ Q := aw_lc m242 d242_19 rfl rfl rfl
theorem d242_21 : decode cX12_leastYear 21 = .ok (.iload_n 2, 1) := by decide +kernel
theorem s242_21 {d : Nat} {st : List Value} {σ : am_I} {ρ : am_R} {g : am_J} {τ : am_T} {Q : am_Q} {x0 x1 x3 x4 x5 x6 : Value} {v : Int32} : AW d 242 21 [x0, x1, .int v, x3, x4, x5, x6] (st) σ ρ g τ Q = AW d 242 22 [x0, x1, .int v, x3, x4, x5, x6] (.int v :: st) σ ρ g τ Q := aw_lc m242 d242_21 rfl rfl rfl
theorem d242_22 : decode cX12_leastYear 22 = .ok (.if_icmp .ge 36, 3) := by decide +kernel
theorem s242_22 {d : Nat} {st : List Value} {σ : am_I} {ρ : am_R} {g : am_J} {τ : am_T} {Q : am_Q} {x0 x1 x2 x3 x4 x5 x6 : Value} {v w : Int32} : AW d 242 22 [x0, x1, x2, x3, x4, x5, x6] (.int w :: .int v :: st) σ ρ g τ Q = if w ≤ v then AW d 242 58 [x0, x1, x2, x3, x4, x5, x6] (st) σ ρ g τ Q else AW d 242 25 [x0, x1, x2, x3, x4, x5, x6] (st) σ ρ g τ Q := aw_br m242 d242_22 rfl rfl rfl
theorem d242_25 : decode cX12_leastYear 25 = .ok (.iload_n 1, 1) := by decide +kernel
theorem s242_25 {d : Nat} {st : List Value} {σ : am_I} {ρ : am_R} {g : am_J} {τ : am_T} {Q : am_Q} {x0 x2 x3 x4 x5 x6 : Value} {v : Int32} : AW d 242 25 [x0, .int v, x2, x3, x4, x5, x6] (st) σ ρ g τ Q = AW d 242 26 [x0, .int v, x2, x3, x4, x5, x6] (.int v :: st) σ ρ g τ Q := aw_lc m242 d242_25 rfl rfl rfl
theorem d242_26 : decode cX12_leastYear 26 = .ok (.iload 6, 2) := by decide +kernel
theorem s242_26 {d : Nat} {st : List Value} {σ : am_I} {ρ : am_R} {g : am_J} {τ : am_T} {Q : am_Q} {x0 x1 x2 x3 x4 x5 : Value} {v : Int32} : AW d 242 26 [x0, x1, x2, x3, x4, x5, .int v] (st) σ ρ g τ Q = AW d 242 28 [x0, x1, x2, x3, x4, x5, .int v] (.int v :: st) σ ρ g τ Q := aw_lc m242 d242_26 rfl rfl rfl
theorem d242_28 : decode cX12_leastYear 28 = .ok (.ishr, 1) := by decide +kernel
theorem s242_28 {d : Nat} {st : List Value} {σ : am_I} {ρ : am_R} {g : am_J} {τ : am_T} {Q : am_Q} {x0 x1 x2 x3 x4 x5 x6 : Value} {v w : Int32} : AW d 242 28 [x0, x1, x2, x3, x4, x5, x6] (.int w :: .int v :: st) σ ρ g τ Q = AW d 242 29 [x0, x1, x2, x3, x4, x5, x6] (.int (v >>> (w &&& 31)) :: st) σ ρ g τ Q := aw_lc m242 d242_28 rfl rfl rfl
theorem d242_29 : decode cX12_leastYear 29 = .ok (.iconst 1, 1) := by decide +kernel
theorem s242_29 {d : Nat} {st : List Value} {σ : am_I} {ρ : am_R} {g : am_J} {τ : am_T} {Q : am_Q} {x0 x1 x2 x3 x4 x5 x6 : Value} : AW d 242 29 [x0, x1, x2, x3, x4, x5, x6] (st) σ ρ g τ Q = AW d 242 30 [x0, x1, x2, x3, x4, x5, x6] (.int 1 :: st) σ ρ g τ Q := aw_lc m242 d242_29 rfl rfl rfl
theorem d242_30 : decode cX12_leastYear 30 = .ok (.iand, 1) := by decide +kernel
theorem s242_30 {d : Nat} {st : List Value} {σ : am_I} {ρ : am_R} {g : am_J} {τ : am_T} {Q : am_Q} {x0 x1 x2 x3 x4 x5 x6 : Value} {v w : Int32} : AW d 242 30 [x0, x1, x2, x3, x4, x5, x6] (.int w :: .int v :: st) σ ρ g τ Q = AW d 242 31 [x0, x1, x2, x3, x4, x5, x6] (.int (v &&& w) :: st) σ ρ g τ Q := aw_lc m242 d242_30 rfl rfl rfl
theorem d242_31 : decode cX12_leastYear 31 = .ok (.iconst 1, 1) := by decide +kernel
theorem s242_31 {d : Nat} {st : List Value} {σ : am_I} {ρ : am_R} {g : am_J} {τ : am_T} {Q : am_Q} {x0 x1 x2 x3 x4 x5 x6 : Value} : AW d 242 31 [x0, x1, x2, x3, x4, x5, x6] (st) σ ρ g τ Q = AW d 242 32 [x0, x1, x2, x3, x4, x5, x6] (.int 1 :: st) σ ρ g τ Q := aw_lc m242 d242_31 rfl rfl rfl
theorem d242_32 : decode cX12_leastYear 32 = .ok (.if_icmp .ne 20, 3) := by decide +kernel
theorem s242_32 {d : Nat} {st : List Value} {σ : am_I} {ρ : am_R} {g : am_J} {τ : am_T} {Q : am_Q} {x0 x1 x2 x3 x4 x5 x6 : Value} {v w : Int32} : AW d 242 32 [x0, x1, x2, x3, x4, x5, x6] (.int w :: .int v :: st) σ ρ g τ Q = if ¬ v = w then AW d 242 52 [x0, x1, x2, x3, x4, x5, x6] (st) σ ρ g τ Q else AW d 242 35 [x0, x1, x2, x3, x4, x5, x6] (st) σ ρ g τ Q := aw_br m242 d242_32 rfl rfl rfl
theorem d242_35 : decode cX12_leastYear 35 = .ok (.iload 5, 2) := by decide +kernel
theorem s242_35 {d : Nat} {st : List Value} {σ : am_I} {ρ : am_R} {g : am_J} {τ : am_T} {Q : am_Q} {x0 x1 x2 x3 x4 x6 : Value} {v : Int32} : AW d 242 35 [x0, x1, x2, x3, x4, .int v, x6] (st) σ ρ g τ Q = AW d 242 37 [x0, x1, x2, x3, x4, .int v, x6] (.int v :: st) σ ρ g τ Q := aw_lc m242 d242_35 rfl rfl rfl
theorem d242_37 : decode cX12_leastYear 37 = .ok (.aload_n 0, 1) := by decide +kernel
theorem s242_37 {d : Nat} {st : List Value} {σ : am_I} {ρ : am_R} {g : am_J} {τ : am_T} {Q : am_Q} {x1 x2 x3 x4 x5 x6 : Value} {v : Nat} : AW d 242 37 [.ref v, x1, x2, x3, x4, x5, x6] (st) σ ρ g τ Q = AW d 242 38 [.ref v, x1, x2, x3, x4, x5, x6] (.ref v :: st) σ ρ g τ Q := aw_lc m242 d242_37 rfl rfl rfl
theorem d242_38 : decode cX12_leastYear 38 = .ok (.getfield 124, 3) := by decide +kernel
theorem s242_38 {d : Nat} {st : List Value} {σ : am_I} {ρ : am_R} {g : am_J} {τ : am_T} {Q : am_Q} {x0 x1 x2 x3 x4 x5 x6 : Value} {a : Nat} (ht : τ.1 a = 12) : AW d 242 38 [x0, x1, x2, x3, x4, x5, x6] (.ref a :: st) σ ρ g τ Q = AW d 242 41 [x0, x1, x2, x3, x4, x5, x6] (va_rf (ρ a 38) :: st) σ ρ g τ Q := aw_gr m242 d242_38 rfl rfl rfl ht
theorem d242_41 : decode cX12_leastYear 41 = .ok (.iconst 3, 1) := by decide +kernel
theorem s242_41 {d : Nat} {st : List Value} {σ : am_I} {ρ : am_R} {g : am_J} {τ : am_T} {Q : am_Q} {x0 x1 x2 x3 x4 x5 x6 : Value} : AW d 242 41 [x0, x1, x2, x3, x4, x5, x6] (st) σ ρ g τ Q = AW d 242 42 [x0, x1, x2, x3, x4, x5, x6] (.int 3 :: st) σ ρ g τ Q := aw_lc m242 d242_41 rfl rfl rfl
theorem d242_42 : decode cX12_leastYear 42 = .ok (.iload 6, 2) := by decide +kernel
theorem s242_42 {d : Nat} {st : List Value} {σ : am_I} {ρ : am_R} {g : am_J} {τ : am_T} {Q : am_Q} {x0 x1 x2 x3 x4 x5 : Value} {v : Int32} : AW d 242 42 [x0, x1, x2, x3, x4, x5, .int v] (st) σ ρ g τ Q = AW d 242 44 [x0, x1, x2, x3, x4, x5, .int v] (.int v :: st) σ ρ g τ Q := aw_lc m242 d242_42 rfl rfl rfl
theorem d242_44 : decode cX12_leastYear 44 = .ok (.imul, 1) := by decide +kernel
theorem s242_44 {d : Nat} {st : List Value} {σ : am_I} {ρ : am_R} {g : am_J} {τ : am_T} {Q : am_Q} {x0 x1 x2 x3 x4 x5 x6 : Value} {v w : Int32} : AW d 242 44 [x0, x1, x2, x3, x4, x5, x6] (.int w :: .int v :: st) σ ρ g τ Q = AW d 242 45 [x0, x1, x2, x3, x4, x5, x6] (.int (v * w) :: st) σ ρ g τ Q := aw_lc m242 d242_44 rfl rfl rfl
theorem d242_45 : decode cX12_leastYear 45 = .ok (.iload 4, 2) := by decide +kernel
theorem s242_45 {d : Nat} {st : List Value} {σ : am_I} {ρ : am_R} {g : am_J} {τ : am_T} {Q : am_Q} {x0 x1 x2 x3 x5 x6 : Value} {v : Int32} : AW d 242 45 [x0, x1, x2, x3, .int v, x5, x6] (st) σ ρ g τ Q = AW d 242 47 [x0, x1, x2, x3, .int v, x5, x6] (.int v :: st) σ ρ g τ Q := aw_lc m242 d242_45 rfl rfl rfl
theorem d242_47 : decode cX12_leastYear 47 = .ok (.iadd, 1) := by decide +kernel
theorem s242_47 {d : Nat} {st : List Value} {σ : am_I} {ρ : am_R} {g : am_J} {τ : am_T} {Q : am_Q} {x0 x1 x2 x3 x4 x5 x6 : Value} {v w : Int32} : AW d 242 47 [x0, x1, x2, x3, x4, x5, x6] (.int w :: .int v :: st) σ ρ g τ Q = AW d 242 48 [x0, x1, x2, x3, x4, x5, x6] (.int (v + w) :: st) σ ρ g τ Q := aw_lc m242 d242_47 rfl rfl rfl
theorem d242_48 : decode cX12_leastYear 48 = .ok (.iaload, 1) := by decide +kernel
theorem s242_48 {d : Nat} {st : List Value} {σ : am_I} {ρ : am_R} {g : am_J} {τ : am_T} {Q : am_Q} {x0 x1 x2 x3 x4 x5 x6 : Value} {a : Nat} {j : Int32} (ht : τ.1 a = 15) (hj : am_inb j (τ.2.1 a) = true) : AW d 242 48 [x0, x1, x2, x3, x4, x5, x6] (.int j :: .ref a :: st) σ ρ g τ Q = AW d 242 49 [x0, x1, x2, x3, x4, x5, x6] (.int (σ a j.toNatClampNeg) :: st) σ ρ g τ Q := aw_ial m242 d242_48 rfl ht hj
theorem d242_49 : decode cX12_leastYear 49 = .ok (.iadd, 1) := by decide +kernel
theorem s242_49 {d : Nat} {st : List Value} {σ : am_I} {ρ : am_R} {g : am_J} {τ : am_T} {Q : am_Q} {x0 x1 x2 x3 x4 x5 x6 : Value} {v w : Int32} : AW d 242 49 [x0, x1, x2, x3, x4, x5, x6] (.int w :: .int v :: st) σ ρ g τ Q = AW d 242 50 [x0, x1, x2, x3, x4, x5, x6] (.int (v + w) :: st) σ ρ g τ Q := aw_lc m242 d242_49 rfl rfl rfl
theorem d242_50 : decode cX12_leastYear 50 = .ok (.istore 5, 2) := by decide +kernel
theorem s242_50 {d : Nat} {st : List Value} {σ : am_I} {ρ : am_R} {g : am_J} {τ : am_T} {Q : am_Q} {x0 x1 x2 x3 x5 x6 : Value} {v : Int32} {u : Int32} : AW d 242 50 [x0, x1, x2, x3, .int u, x5, x6] (.int v :: st) σ ρ g τ Q = AW d 242 52 [x0, x1, x2, x3, .int u, .int v, x6] (st) σ ρ g τ Q := aw_lc m242 d242_50 rfl rfl rfl
theorem d242_52 : decode cX12_leastYear 52 = .ok (.iinc 6 1, 3) := by decide +kernel
theorem s242_52 {d : Nat} {st : List Value} {σ : am_I} {ρ : am_R} {g : am_J} {τ : am_T} {Q : am_Q} {x0 x1 x2 x3 x4 : Value} {v : Int32} {u : Int32} : AW d 242 52 [x0, x1, x2, x3, x4, .int u, .int v] (st) σ ρ g τ Q = AW d 242 55 [x0, x1, x2, x3, x4, .int u, .int (v + 1)] (st) σ ρ g τ Q := aw_lc m242 d242_52 rfl rfl rfl
theorem d242_55 : decode cX12_leastYear 55 = .ok (.goto (-36), 3) := by decide +kernel
theorem s242_55 {d : Nat} {st : List Value} {σ : am_I} {ρ : am_R} {g : am_J} {τ : am_T} {Q : am_Q} {x0 x1 x2 x3 x4 x5 x6 : Value} : AW d 242 55 [x0, x1, x2, x3, x4, x5, x6] (st) σ ρ g τ Q = AW d 242 19 [x0, x1, x2, x3, x4, x5, x6] (st) σ ρ g τ Q := aw_lc m242 d242_55 rfl rfl rfl
theorem d242_58 : decode cX12_leastYear 58 = .ok (.iload_n 3, 1) := by decide +kernel
theorem s242_58 {d : Nat} {st : List Value} {σ : am_I} {ρ : am_R} {g : am_J} {τ : am_T} {Q : am_Q} {x0 x1 x2 x4 x5 x6 : Value} {v : Int32} : AW d 242 58 [x0, x1, x2, .int v, x4, x5, x6] (st) σ ρ g τ Q = AW d 242 59 [x0, x1, x2, .int v, x4, x5, x6] (.int v :: st) σ ρ g τ Q := aw_lc m242 d242_58 rfl rfl rfl
theorem d242_59 : decode cX12_leastYear 59 = .ok (.iload 5, 2) := by decide +kernel
theorem s242_59 {d : Nat} {st : List Value} {σ : am_I} {ρ : am_R} {g : am_J} {τ : am_T} {Q : am_Q} {x0 x1 x2 x3 x4 x6 : Value} {v : Int32} : AW d 242 59 [x0, x1, x2, x3, x4, .int v, x6] (st) σ ρ g τ Q = AW d 242 61 [x0, x1, x2, x3, x4, .int v, x6] (.int v :: st) σ ρ g τ Q := aw_lc m242 d242_59 rfl rfl rfl
theorem d242_61 : decode cX12_leastYear 61 = .ok (.invokestatic 232, 3) := by decide +kernel
theorem s242_61 {d : Nat} {st : List Value} {σ : am_I} {ρ : am_R} {g : am_J} {τ : am_T} {Q : am_Q} {x0 x1 x2 x3 x4 x5 x6 : Value} {v w : Int32} (hs : st.length ≤ 4) : AW d 242 61 [x0, x1, x2, x3, x4, x5, x6] (.int w :: .int v :: st) σ ρ g τ Q = AW d 242 64 [x0, x1, x2, x3, x4, x5, x6] (.int (if w < v then w else v) :: st) σ ρ g τ Q := aw_min m242 d242_61 rfl rfl hs
theorem d242_64 : decode cX12_leastYear 64 = .ok (.istore_n 3, 1) := by decide +kernel
theorem s242_64 {d : Nat} {st : List Value} {σ : am_I} {ρ : am_R} {g : am_J} {τ : am_T} {Q : am_Q} {x0 x1 x3 x4 x5 x6 : Value} {v : Int32} {u : Int32} : AW d 242 64 [x0, x1, .int u, x3, x4, x5, x6] (.int v :: st) σ ρ g τ Q = AW d 242 65 [x0, x1, .int u, .int v, x4, x5, x6] (st) σ ρ g τ Q := aw_lc m242 d242_64 rfl rfl rfl
theorem d242_65 : decode cX12_leastYear 65 = .ok (.iinc 4 1, 3) := by decide +kernel
theorem s242_65 {d : Nat} {st : List Value} {σ : am_I} {ρ : am_R} {g : am_J} {τ : am_T} {Q : am_Q} {x0 x1 x2 x5 x6 : Value} {v : Int32} {u : Int32} : AW d 242 65 [x0, x1, x2, .int u, .int v, x5, x6] (st) σ ρ g τ Q = AW d 242 68 [x0, x1, x2, .int u, .int (v + 1), x5, x6] (st) σ ρ g τ Q := aw_lc m242 d242_65 rfl rfl rfl
theorem d242_68 : decode cX12_leastYear 68 = .ok (.goto (-61), 3) := by decide +kernel
theorem s242_68 {d : Nat} {st : List Value} {σ : am_I} {ρ : am_R} {g : am_J} {τ : am_T} {Q : am_Q} {x0 x1 x2 x3 x4 x5 x6 : Value} : AW d 242 68 [x0, x1, x2, x3, x4, x5, x6] (st) σ ρ g τ Q = AW d 242 7 [x0, x1, x2, x3, x4, x5, x6] (st) σ ρ g τ Q := aw_lc m242 d242_68 rfl rfl rfl
theorem d242_71 : decode cX12_leastYear 71 = .ok (.iload_n 3, 1) := by decide +kernel
theorem s242_71 {d : Nat} {st : List Value} {σ : am_I} {ρ : am_R} {g : am_J} {τ : am_T} {Q : am_Q} {x0 x1 x2 x4 x5 x6 : Value} {v : Int32} : AW d 242 71 [x0, x1, x2, .int v, x4, x5, x6] (st) σ ρ g τ Q = AW d 242 72 [x0, x1, x2, .int v, x4, x5, x6] (.int v :: st) σ ρ g τ Q := aw_lc m242 d242_71 rfl rfl rfl
theorem d242_72 : decode cX12_leastYear 72 = .ok (.ireturn, 1) := by decide +kernel
theorem s242_72 {d : Nat} {σ : am_I} {ρ : am_R} {g : am_J} {τ : am_T} {Q : am_Q} {x0 x1 x2 x3 x4 x5 x6 : Value} {v : Int32} : AW d 242 72 [x0, x1, x2, x3, x4, x5, x6] ([.int v]) σ ρ g τ Q = Q (some (.int v)) σ ρ g τ := aw_ri m242 d242_72 rfl
theorem d243_0 : decode cX12_sunk 0 = .ok (.iconst 0, 1) := by decide +kernel
theorem s243_0 {d : Nat} {st : List Value} {σ : am_I} {ρ : am_R} {g : am_J} {τ : am_T} {Q : am_Q} {x0 x1 x2 x3 : Value} : AW d 243 0 [x0, x1, x2, x3] (st) σ ρ g τ Q = AW d 243 1 [x0, x1, x2, x3] (.int 0 :: st) σ ρ g τ Q := aw_lc m243 d243_0 rfl rfl rfl
theorem d243_1 : decode cX12_sunk 1 = .ok (.istore_n 2, 1) := by decide +kernel
theorem s243_1 {d : Nat} {st : List Value} {σ : am_I} {ρ : am_R} {g : am_J} {τ : am_T} {Q : am_Q} {x0 x2 x3 : Value} {v : Int32} {u : Int32} : AW d 243 1 [x0, .int u, x2, x3] (.int v :: st) σ ρ g τ Q = AW d 243 2 [x0, .int u, .int v, x3] (st) σ ρ g τ Q := aw_lc m243 d243_1 rfl rfl rfl
theorem d243_2 : decode cX12_sunk 2 = .ok (.iconst 0, 1) := by decide +kernel
theorem s243_2 {d : Nat} {st : List Value} {σ : am_I} {ρ : am_R} {g : am_J} {τ : am_T} {Q : am_Q} {x0 x1 x2 x3 : Value} : AW d 243 2 [x0, x1, x2, x3] (st) σ ρ g τ Q = AW d 243 3 [x0, x1, x2, x3] (.int 0 :: st) σ ρ g τ Q := aw_lc m243 d243_2 rfl rfl rfl
theorem d243_3 : decode cX12_sunk 3 = .ok (.istore_n 3, 1) := by decide +kernel
theorem s243_3 {d : Nat} {st : List Value} {σ : am_I} {ρ : am_R} {g : am_J} {τ : am_T} {Q : am_Q} {x0 x1 x3 : Value} {v : Int32} {u : Int32} : AW d 243 3 [x0, x1, .int u, x3] (.int v :: st) σ ρ g τ Q = AW d 243 4 [x0, x1, .int u, .int v] (st) σ ρ g τ Q := aw_lc m243 d243_3 rfl rfl rfl
theorem d243_4 : decode cX12_sunk 4 = .ok (.iload_n 3, 1) := by decide +kernel
theorem s243_4 {d : Nat} {st : List Value} {σ : am_I} {ρ : am_R} {g : am_J} {τ : am_T} {Q : am_Q} {x0 x1 x2 : Value} {v : Int32} : AW d 243 4 [x0, x1, x2, .int v] (st) σ ρ g τ Q = AW d 243 5 [x0, x1, x2, .int v] (.int v :: st) σ ρ g τ Q := aw_lc m243 d243_4 rfl rfl rfl
theorem d243_5 : decode cX12_sunk 5 = .ok (.aload_n 0, 1) := by decide +kernel
theorem s243_5 {d : Nat} {st : List Value} {σ : am_I} {ρ : am_R} {g : am_J} {τ : am_T} {Q : am_Q} {x1 x2 x3 : Value} {v : Nat} : AW d 243 5 [.ref v, x1, x2, x3] (st) σ ρ g τ Q = AW d 243 6 [.ref v, x1, x2, x3] (.ref v :: st) σ ρ g τ Q := aw_lc m243 d243_5 rfl rfl rfl
theorem d243_6 : decode cX12_sunk 6 = .ok (.getfield 9, 3) := by decide +kernel
theorem s243_6 {d : Nat} {st : List Value} {σ : am_I} {ρ : am_R} {g : am_J} {τ : am_T} {Q : am_Q} {x0 x1 x2 x3 : Value} {a : Nat} (ht : τ.1 a = 12) : AW d 243 6 [x0, x1, x2, x3] (.ref a :: st) σ ρ g τ Q = AW d 243 9 [x0, x1, x2, x3] (va_rf (ρ a 0) :: st) σ ρ g τ Q := aw_gr m243 d243_6 rfl rfl rfl ht
theorem d243_9 : decode cX12_sunk 9 = .ok (.bipush 7, 2) := by decide +kernel
theorem s243_9 {d : Nat} {st : List Value} {σ : am_I} {ρ : am_R} {g : am_J} {τ : am_T} {Q : am_Q} {x0 x1 x2 x3 : Value} : AW d 243 9 [x0, x1, x2, x3] (st) σ ρ g τ Q = AW d 243 11 [x0, x1, x2, x3] (.int 7 :: st) σ ρ g τ Q := aw_lc m243 d243_9 rfl rfl rfl
theorem d243_11 : decode cX12_sunk 11 = .ok (.iaload, 1) := by decide +kernel
theorem s243_11 {d : Nat} {st : List Value} {σ : am_I} {ρ : am_R} {g : am_J} {τ : am_T} {Q : am_Q} {x0 x1 x2 x3 : Value} {a : Nat} {j : Int32} (ht : τ.1 a = 15) (hj : am_inb j (τ.2.1 a) = true) : AW d 243 11 [x0, x1, x2, x3] (.int j :: .ref a :: st) σ ρ g τ Q = AW d 243 12 [x0, x1, x2, x3] (.int (σ a j.toNatClampNeg) :: st) σ ρ g τ Q := aw_ial m243 d243_11 rfl ht hj
theorem d243_12 : decode cX12_sunk 12 = .ok (.if_icmp .ge 27, 3) := by decide +kernel
theorem s243_12 {d : Nat} {st : List Value} {σ : am_I} {ρ : am_R} {g : am_J} {τ : am_T} {Q : am_Q} {x0 x1 x2 x3 : Value} {v w : Int32} : AW d 243 12 [x0, x1, x2, x3] (.int w :: .int v :: st) σ ρ g τ Q = if w ≤ v then AW d 243 39 [x0, x1, x2, x3] (st) σ ρ g τ Q else AW d 243 15 [x0, x1, x2, x3] (st) σ ρ g τ Q := aw_br m243 d243_12 rfl rfl rfl
theorem d243_15 : decode cX12_sunk 15 = .ok (.iload_n 1, 1) := by decide +kernel
theorem s243_15 {d : Nat} {st : List Value} {σ : am_I} {ρ : am_R} {g : am_J} {τ : am_T} {Q : am_Q} {x0 x2 x3 : Value} {v : Int32} : AW d 243 15 [x0, .int v, x2, x3] (st) σ ρ g τ Q = AW d 243 16 [x0, .int v, x2, x3] (.int v :: st) σ ρ g τ Q := aw_lc m243 d243_15 rfl rfl rfl
theorem d243_16 : decode cX12_sunk 16 = .ok (.iload_n 3, 1) := by decide +kernel
theorem s243_16 {d : Nat} {st : List Value} {σ : am_I} {ρ : am_R} {g : am_J} {τ : am_T} {Q : am_Q} {x0 x1 x2 : Value} {v : Int32} : AW d 243 16 [x0, x1, x2, .int v] (st) σ ρ g τ Q = AW d 243 17 [x0, x1, x2, .int v] (.int v :: st) σ ρ g τ Q := aw_lc m243 d243_16 rfl rfl rfl
theorem d243_17 : decode cX12_sunk 17 = .ok (.ishr, 1) := by decide +kernel
theorem s243_17 {d : Nat} {st : List Value} {σ : am_I} {ρ : am_R} {g : am_J} {τ : am_T} {Q : am_Q} {x0 x1 x2 x3 : Value} {v w : Int32} : AW d 243 17 [x0, x1, x2, x3] (.int w :: .int v :: st) σ ρ g τ Q = AW d 243 18 [x0, x1, x2, x3] (.int (v >>> (w &&& 31)) :: st) σ ρ g τ Q := aw_lc m243 d243_17 rfl rfl rfl
theorem d243_18 : decode cX12_sunk 18 = .ok (.iconst 1, 1) := by decide +kernel
theorem s243_18 {d : Nat} {st : List Value} {σ : am_I} {ρ : am_R} {g : am_J} {τ : am_T} {Q : am_Q} {x0 x1 x2 x3 : Value} : AW d 243 18 [x0, x1, x2, x3] (st) σ ρ g τ Q = AW d 243 19 [x0, x1, x2, x3] (.int 1 :: st) σ ρ g τ Q := aw_lc m243 d243_18 rfl rfl rfl
theorem d243_19 : decode cX12_sunk 19 = .ok (.iand, 1) := by decide +kernel
theorem s243_19 {d : Nat} {st : List Value} {σ : am_I} {ρ : am_R} {g : am_J} {τ : am_T} {Q : am_Q} {x0 x1 x2 x3 : Value} {v w : Int32} : AW d 243 19 [x0, x1, x2, x3] (.int w :: .int v :: st) σ ρ g τ Q = AW d 243 20 [x0, x1, x2, x3] (.int (v &&& w) :: st) σ ρ g τ Q := aw_lc m243 d243_19 rfl rfl rfl
theorem d243_20 : decode cX12_sunk 20 = .ok (.iconst 1, 1) := by decide +kernel
theorem s243_20 {d : Nat} {st : List Value} {σ : am_I} {ρ : am_R} {g : am_J} {τ : am_T} {Q : am_Q} {x0 x1 x2 x3 : Value} : AW d 243 20 [x0, x1, x2, x3] (st) σ ρ g τ Q = AW d 243 21 [x0, x1, x2, x3] (.int 1 :: st) σ ρ g τ Q := aw_lc m243 d243_20 rfl rfl rfl
theorem d243_21 : decode cX12_sunk 21 = .ok (.if_icmp .ne 12, 3) := by decide +kernel
theorem s243_21 {d : Nat} {st : List Value} {σ : am_I} {ρ : am_R} {g : am_J} {τ : am_T} {Q : am_Q} {x0 x1 x2 x3 : Value} {v w : Int32} : AW d 243 21 [x0, x1, x2, x3] (.int w :: .int v :: st) σ ρ g τ Q = if ¬ v = w then AW d 243 33 [x0, x1, x2, x3] (st) σ ρ g τ Q else AW d 243 24 [x0, x1, x2, x3] (st) σ ρ g τ Q := aw_br m243 d243_21 rfl rfl rfl
theorem d243_24 : decode cX12_sunk 24 = .ok (.iload_n 2, 1) := by decide +kernel
theorem s243_24 {d : Nat} {st : List Value} {σ : am_I} {ρ : am_R} {g : am_J} {τ : am_T} {Q : am_Q} {x0 x1 x3 : Value} {v : Int32} : AW d 243 24 [x0, x1, .int v, x3] (st) σ ρ g τ Q = AW d 243 25 [x0, x1, .int v, x3] (.int v :: st) σ ρ g τ Q := aw_lc m243 d243_24 rfl rfl rfl
theorem d243_25 : decode cX12_sunk 25 = .ok (.aload_n 0, 1) := by decide +kernel
theorem s243_25 {d : Nat} {st : List Value} {σ : am_I} {ρ : am_R} {g : am_J} {τ : am_T} {Q : am_Q} {x1 x2 x3 : Value} {v : Nat} : AW d 243 25 [.ref v, x1, x2, x3] (st) σ ρ g τ Q = AW d 243 26 [.ref v, x1, x2, x3] (.ref v :: st) σ ρ g τ Q := aw_lc m243 d243_25 rfl rfl rfl
theorem d243_26 : decode cX12_sunk 26 = .ok (.getfield 127, 3) := by decide +kernel
theorem s243_26 {d : Nat} {st : List Value} {σ : am_I} {ρ : am_R} {g : am_J} {τ : am_T} {Q : am_Q} {x0 x1 x2 x3 : Value} {a : Nat} (ht : τ.1 a = 12) : AW d 243 26 [x0, x1, x2, x3] (.ref a :: st) σ ρ g τ Q = AW d 243 29 [x0, x1, x2, x3] (va_rf (ρ a 39) :: st) σ ρ g τ Q := aw_gr m243 d243_26 rfl rfl rfl ht
theorem d243_29 : decode cX12_sunk 29 = .ok (.iload_n 3, 1) := by decide +kernel
theorem s243_29 {d : Nat} {st : List Value} {σ : am_I} {ρ : am_R} {g : am_J} {τ : am_T} {Q : am_Q} {x0 x1 x2 : Value} {v : Int32} : AW d 243 29 [x0, x1, x2, .int v] (st) σ ρ g τ Q = AW d 243 30 [x0, x1, x2, .int v] (.int v :: st) σ ρ g τ Q := aw_lc m243 d243_29 rfl rfl rfl
theorem d243_30 : decode cX12_sunk 30 = .ok (.iaload, 1) := by decide +kernel
theorem s243_30 {d : Nat} {st : List Value} {σ : am_I} {ρ : am_R} {g : am_J} {τ : am_T} {Q : am_Q} {x0 x1 x2 x3 : Value} {a : Nat} {j : Int32} (ht : τ.1 a = 15) (hj : am_inb j (τ.2.1 a) = true) : AW d 243 30 [x0, x1, x2, x3] (.int j :: .ref a :: st) σ ρ g τ Q = AW d 243 31 [x0, x1, x2, x3] (.int (σ a j.toNatClampNeg) :: st) σ ρ g τ Q := aw_ial m243 d243_30 rfl ht hj
theorem d243_31 : decode cX12_sunk 31 = .ok (.iadd, 1) := by decide +kernel
theorem s243_31 {d : Nat} {st : List Value} {σ : am_I} {ρ : am_R} {g : am_J} {τ : am_T} {Q : am_Q} {x0 x1 x2 x3 : Value} {v w : Int32} : AW d 243 31 [x0, x1, x2, x3] (.int w :: .int v :: st) σ ρ g τ Q = AW d 243 32 [x0, x1, x2, x3] (.int (v + w) :: st) σ ρ g τ Q := aw_lc m243 d243_31 rfl rfl rfl
theorem d243_32 : decode cX12_sunk 32 = .ok (.istore_n 2, 1) := by decide +kernel
theorem s243_32 {d : Nat} {st : List Value} {σ : am_I} {ρ : am_R} {g : am_J} {τ : am_T} {Q : am_Q} {x0 x2 x3 : Value} {v : Int32} {u : Int32} : AW d 243 32 [x0, .int u, x2, x3] (.int v :: st) σ ρ g τ Q = AW d 243 33 [x0, .int u, .int v, x3] (st) σ ρ g τ Q := aw_lc m243 d243_32 rfl rfl rfl
theorem d243_33 : decode cX12_sunk 33 = .ok (.iinc 3 1, 3) := by decide +kernel
theorem s243_33 {d : Nat} {st : List Value} {σ : am_I} {ρ : am_R} {g : am_J} {τ : am_T} {Q : am_Q} {x0 x1 : Value} {v : Int32} {u : Int32} : AW d 243 33 [x0, x1, .int u, .int v] (st) σ ρ g τ Q = AW d 243 36 [x0, x1, .int u, .int (v + 1)] (st) σ ρ g τ Q := aw_lc m243 d243_33 rfl rfl rfl
theorem d243_36 : decode cX12_sunk 36 = .ok (.goto (-32), 3) := by decide +kernel
theorem s243_36 {d : Nat} {st : List Value} {σ : am_I} {ρ : am_R} {g : am_J} {τ : am_T} {Q : am_Q} {x0 x1 x2 x3 : Value} : AW d 243 36 [x0, x1, x2, x3] (st) σ ρ g τ Q = AW d 243 4 [x0, x1, x2, x3] (st) σ ρ g τ Q := aw_lc m243 d243_36 rfl rfl rfl
theorem d243_39 : decode cX12_sunk 39 = .ok (.iload_n 2, 1) := by decide +kernel
theorem s243_39 {d : Nat} {st : List Value} {σ : am_I} {ρ : am_R} {g : am_J} {τ : am_T} {Q : am_Q} {x0 x1 x3 : Value} {v : Int32} : AW d 243 39 [x0, x1, .int v, x3] (st) σ ρ g τ Q = AW d 243 40 [x0, x1, .int v, x3] (.int v :: st) σ ρ g τ Q := aw_lc m243 d243_39 rfl rfl rfl
theorem d243_40 : decode cX12_sunk 40 = .ok (.ireturn, 1) := by decide +kernel
theorem s243_40 {d : Nat} {σ : am_I} {ρ : am_R} {g : am_J} {τ : am_T} {Q : am_Q} {x0 x1 x2 x3 : Value} {v : Int32} : AW d 243 40 [x0, x1, x2, x3] ([.int v]) σ ρ g τ Q = Q (some (.int v)) σ ρ g τ := aw_ri m243 d243_40 rfl
theorem d244_0 : decode cX12_choose 0 = .ok (.iload_n 1, 1) := by decide +kernel
theorem s244_0 {d : Nat} {st : List Value} {σ : am_I} {ρ : am_R} {g : am_J} {τ : am_T} {Q : am_Q} {x0 x2 x3 x4 x5 : Value} {v : Int32} : AW d 244 0 [x0, .int v, x2, x3, x4, x5] (st) σ ρ g τ Q = AW d 244 1 [x0, .int v, x2, x3, x4, x5] (.int v :: st) σ ρ g τ Q := aw_lc m244 d244_0 rfl rfl rfl
theorem d244_1 : decode cX12_choose 1 = .ok (.iconst 0, 1) := by decide +kernel
theorem s244_1 {d : Nat} {st : List Value} {σ : am_I} {ρ : am_R} {g : am_J} {τ : am_T} {Q : am_Q} {x0 x1 x2 x3 x4 x5 : Value} : AW d 244 1 [x0, x1, x2, x3, x4, x5] (st) σ ρ g τ Q = AW d 244 2 [x0, x1, x2, x3, x4, x5] (.int 0 :: st) σ ρ g τ Q := aw_lc m244 d244_1 rfl rfl rfl
theorem d244_2 : decode cX12_choose 2 = .ok (.sipush 9999, 3) := by decide +kernel
theorem s244_2 {d : Nat} {st : List Value} {σ : am_I} {ρ : am_R} {g : am_J} {τ : am_T} {Q : am_Q} {x0 x1 x2 x3 x4 x5 : Value} : AW d 244 2 [x0, x1, x2, x3, x4, x5] (st) σ ρ g τ Q = AW d 244 5 [x0, x1, x2, x3, x4, x5] (.int 9999 :: st) σ ρ g τ Q := aw_lc m244 d244_2 rfl rfl rfl
theorem d244_5 : decode cX12_choose 5 = .ok (.invokestatic 194, 3) := by decide +kernel
theorem s244_5 {d : Nat} {st : List Value} {σ : am_I} {ρ : am_R} {g : am_J} {τ : am_T} {Q : am_Q} {x0 x1 x2 x3 x4 x5 : Value} {p0 : Int32} {p1 : Int32} {p2 : Int32} (hs : st.length ≤ 4) : AW (d + 1) 244 5 [x0, x1, x2, x3, x4, x5] (.int p2 :: .int p1 :: .int p0 :: st) σ ρ g τ Q = AW d 165 0 [.int p0, .int p1, .int p2] [] σ ρ g τ (fun r9 σ ρ g τ => AW (d + 1) 244 8 [x0, x1, x2, x3, x4, x5] (r9.toList ++ st) σ ρ g τ Q) := aw_cs m244 d244_5 rfl (by simp only [List.length_cons]; omega) rfl rfl en165 ok165 rfl hs
theorem d244_8 : decode cX12_choose 8 = .ok (.ifCond .ne 5, 3) := by decide +kernel
theorem s244_8 {d : Nat} {st : List Value} {σ : am_I} {ρ : am_R} {g : am_J} {τ : am_T} {Q : am_Q} {x0 x1 x2 x3 x4 x5 : Value} {v : Int32} : AW d 244 8 [x0, x1, x2, x3, x4, x5] (.int v :: st) σ ρ g τ Q = if ¬ v = 0 then AW d 244 13 [x0, x1, x2, x3, x4, x5] (st) σ ρ g τ Q else AW d 244 11 [x0, x1, x2, x3, x4, x5] (st) σ ρ g τ Q := aw_br m244 d244_8 rfl rfl rfl
theorem d244_11 : decode cX12_choose 11 = .ok (.iconst (-1), 1) := by decide +kernel
theorem s244_11 {d : Nat} {st : List Value} {σ : am_I} {ρ : am_R} {g : am_J} {τ : am_T} {Q : am_Q} {x0 x1 x2 x3 x4 x5 : Value} : AW d 244 11 [x0, x1, x2, x3, x4, x5] (st) σ ρ g τ Q = AW d 244 12 [x0, x1, x2, x3, x4, x5] (.int (-1) :: st) σ ρ g τ Q := aw_lc m244 d244_11 rfl rfl rfl
theorem d244_12 : decode cX12_choose 12 = .ok (.ireturn, 1) := by decide +kernel
theorem s244_12 {d : Nat} {σ : am_I} {ρ : am_R} {g : am_J} {τ : am_T} {Q : am_Q} {x0 x1 x2 x3 x4 x5 : Value} {v : Int32} : AW d 244 12 [x0, x1, x2, x3, x4, x5] ([.int v]) σ ρ g τ Q = Q (some (.int v)) σ ρ g τ := aw_ri m244 d244_12 rfl
theorem d244_13 : decode cX12_choose 13 = .ok (.iconst (-1), 1) := by decide +kernel
theorem s244_13 {d : Nat} {st : List Value} {σ : am_I} {ρ : am_R} {g : am_J} {τ : am_T} {Q : am_Q} {x0 x1 x2 x3 x4 x5 : Value} : AW d 244 13 [x0, x1, x2, x3, x4, x5] (st) σ ρ g τ Q = AW d 244 14 [x0, x1, x2, x3, x4, x5] (.int (-1) :: st) σ ρ g τ Q := aw_lc m244 d244_13 rfl rfl rfl
theorem d244_14 : decode cX12_choose 14 = .ok (.istore_n 2, 1) := by decide +kernel
theorem s244_14 {d : Nat} {st : List Value} {σ : am_I} {ρ : am_R} {g : am_J} {τ : am_T} {Q : am_Q} {x0 x2 x3 x4 x5 : Value} {v : Int32} {u : Int32} : AW d 244 14 [x0, .int u, x2, x3, x4, x5] (.int v :: st) σ ρ g τ Q = AW d 244 15 [x0, .int u, .int v, x3, x4, x5] (st) σ ρ g τ Q := aw_lc m244 d244_14 rfl rfl rfl
theorem d244_15 : decode cX12_choose 15 = .ok (.iconst 0, 1) := by decide +kernel
theorem s244_15 {d : Nat} {st : List Value} {σ : am_I} {ρ : am_R} {g : am_J} {τ : am_T} {Q : am_Q} {x0 x1 x2 x3 x4 x5 : Value} : AW d 244 15 [x0, x1, x2, x3, x4, x5] (st) σ ρ g τ Q = AW d 244 16 [x0, x1, x2, x3, x4, x5] (.int 0 :: st) σ ρ g τ Q := aw_lc m244 d244_15 rfl rfl rfl
theorem d244_16 : decode cX12_choose 16 = .ok (.istore_n 3, 1) := by decide +kernel
theorem s244_16 {d : Nat} {st : List Value} {σ : am_I} {ρ : am_R} {g : am_J} {τ : am_T} {Q : am_Q} {x0 x1 x3 x4 x5 : Value} {v : Int32} {u : Int32} : AW d 244 16 [x0, x1, .int u, x3, x4, x5] (.int v :: st) σ ρ g τ Q = AW d 244 17 [x0, x1, .int u, .int v, x4, x5] (st) σ ρ g τ Q := aw_lc m244 d244_16 rfl rfl rfl
theorem d244_17 : decode cX12_choose 17 = .ok (.iload_n 3, 1) := by decide +kernel
theorem s244_17 {d : Nat} {st : List Value} {σ : am_I} {ρ : am_R} {g : am_J} {τ : am_T} {Q : am_Q} {x0 x1 x2 x4 x5 : Value} {v : Int32} : AW d 244 17 [x0, x1, x2, .int v, x4, x5] (st) σ ρ g τ Q = AW d 244 18 [x0, x1, x2, .int v, x4, x5] (.int v :: st) σ ρ g τ Q := aw_lc m244 d244_17 rfl rfl rfl
theorem d244_18 : decode cX12_choose 18 = .ok (.iconst 1, 1) := by decide +kernel
theorem s244_18 {d : Nat} {st : List Value} {σ : am_I} {ρ : am_R} {g : am_J} {τ : am_T} {Q : am_Q} {x0 x1 x2 x3 x4 x5 : Value} : AW d 244 18 [x0, x1, x2, x3, x4, x5] (st) σ ρ g τ Q = AW d 244 19 [x0, x1, x2, x3, x4, x5] (.int 1 :: st) σ ρ g τ Q := aw_lc m244 d244_18 rfl rfl rfl
theorem d244_19 : decode cX12_choose 19 = .ok (.aload_n 0, 1) := by decide +kernel
theorem s244_19 {d : Nat} {st : List Value} {σ : am_I} {ρ : am_R} {g : am_J} {τ : am_T} {Q : am_Q} {x1 x2 x3 x4 x5 : Value} {v : Nat} : AW d 244 19 [.ref v, x1, x2, x3, x4, x5] (st) σ ρ g τ Q = AW d 244 20 [.ref v, x1, x2, x3, x4, x5] (.ref v :: st) σ ρ g τ Q := aw_lc m244 d244_19 rfl rfl rfl
theorem d244_20 : decode cX12_choose 20 = .ok (.getfield 9, 3) := by decide +kernel
theorem s244_20 {d : Nat} {st : List Value} {σ : am_I} {ρ : am_R} {g : am_J} {τ : am_T} {Q : am_Q} {x0 x1 x2 x3 x4 x5 : Value} {a : Nat} (ht : τ.1 a = 12) : AW d 244 20 [x0, x1, x2, x3, x4, x5] (.ref a :: st) σ ρ g τ Q = AW d 244 23 [x0, x1, x2, x3, x4, x5] (va_rf (ρ a 0) :: st) σ ρ g τ Q := aw_gr m244 d244_20 rfl rfl rfl ht
theorem d244_23 : decode cX12_choose 23 = .ok (.bipush 7, 2) := by decide +kernel
theorem s244_23 {d : Nat} {st : List Value} {σ : am_I} {ρ : am_R} {g : am_J} {τ : am_T} {Q : am_Q} {x0 x1 x2 x3 x4 x5 : Value} : AW d 244 23 [x0, x1, x2, x3, x4, x5] (st) σ ρ g τ Q = AW d 244 25 [x0, x1, x2, x3, x4, x5] (.int 7 :: st) σ ρ g τ Q := aw_lc m244 d244_23 rfl rfl rfl
theorem d244_25 : decode cX12_choose 25 = .ok (.iaload, 1) := by decide +kernel
theorem s244_25 {d : Nat} {st : List Value} {σ : am_I} {ρ : am_R} {g : am_J} {τ : am_T} {Q : am_Q} {x0 x1 x2 x3 x4 x5 : Value} {a : Nat} {j : Int32} (ht : τ.1 a = 15) (hj : am_inb j (τ.2.1 a) = true) : AW d 244 25 [x0, x1, x2, x3, x4, x5] (.int j :: .ref a :: st) σ ρ g τ Q = AW d 244 26 [x0, x1, x2, x3, x4, x5] (.int (σ a j.toNatClampNeg) :: st) σ ρ g τ Q := aw_ial m244 d244_25 rfl ht hj
theorem d244_26 : decode cX12_choose 26 = .ok (.ishl, 1) := by decide +kernel
theorem s244_26 {d : Nat} {st : List Value} {σ : am_I} {ρ : am_R} {g : am_J} {τ : am_T} {Q : am_Q} {x0 x1 x2 x3 x4 x5 : Value} {v w : Int32} : AW d 244 26 [x0, x1, x2, x3, x4, x5] (.int w :: .int v :: st) σ ρ g τ Q = AW d 244 27 [x0, x1, x2, x3, x4, x5] (.int (v <<< (w &&& 31)) :: st) σ ρ g τ Q := aw_lc m244 d244_26 rfl rfl rfl
theorem d244_27 : decode cX12_choose 27 = .ok (.if_icmp .ge 81, 3) := by decide +kernel
theorem s244_27 {d : Nat} {st : List Value} {σ : am_I} {ρ : am_R} {g : am_J} {τ : am_T} {Q : am_Q} {x0 x1 x2 x3 x4 x5 : Value} {v w : Int32} : AW d 244 27 [x0, x1, x2, x3, x4, x5] (.int w :: .int v :: st) σ ρ g τ Q = if w ≤ v then AW d 244 108 [x0, x1, x2, x3, x4, x5] (st) σ ρ g τ Q else AW d 244 30 [x0, x1, x2, x3, x4, x5] (st) σ ρ g τ Q := aw_br m244 d244_27 rfl rfl rfl
theorem d244_30 : decode cX12_choose 30 = .ok (.aload_n 0, 1) := by decide +kernel
theorem s244_30 {d : Nat} {st : List Value} {σ : am_I} {ρ : am_R} {g : am_J} {τ : am_T} {Q : am_Q} {x1 x2 x3 x4 x5 : Value} {v : Nat} : AW d 244 30 [.ref v, x1, x2, x3, x4, x5] (st) σ ρ g τ Q = AW d 244 31 [.ref v, x1, x2, x3, x4, x5] (.ref v :: st) σ ρ g τ Q := aw_lc m244 d244_30 rfl rfl rfl
theorem d244_31 : decode cX12_choose 31 = .ok (.iload_n 3, 1) := by decide +kernel
theorem s244_31 {d : Nat} {st : List Value} {σ : am_I} {ρ : am_R} {g : am_J} {τ : am_T} {Q : am_Q} {x0 x1 x2 x4 x5 : Value} {v : Int32} : AW d 244 31 [x0, x1, x2, .int v, x4, x5] (st) σ ρ g τ Q = AW d 244 32 [x0, x1, x2, .int v, x4, x5] (.int v :: st) σ ρ g τ Q := aw_lc m244 d244_31 rfl rfl rfl
theorem d244_32 : decode cX12_choose 32 = .ok (.aload_n 0, 1) := by decide +kernel
theorem s244_32 {d : Nat} {st : List Value} {σ : am_I} {ρ : am_R} {g : am_J} {τ : am_T} {Q : am_Q} {x1 x2 x3 x4 x5 : Value} {v : Nat} : AW d 244 32 [.ref v, x1, x2, x3, x4, x5] (st) σ ρ g τ Q = AW d 244 33 [.ref v, x1, x2, x3, x4, x5] (.ref v :: st) σ ρ g τ Q := aw_lc m244 d244_32 rfl rfl rfl
theorem d244_33 : decode cX12_choose 33 = .ok (.getfield 9, 3) := by decide +kernel
theorem s244_33 {d : Nat} {st : List Value} {σ : am_I} {ρ : am_R} {g : am_J} {τ : am_T} {Q : am_Q} {x0 x1 x2 x3 x4 x5 : Value} {a : Nat} (ht : τ.1 a = 12) : AW d 244 33 [x0, x1, x2, x3, x4, x5] (.ref a :: st) σ ρ g τ Q = AW d 244 36 [x0, x1, x2, x3, x4, x5] (va_rf (ρ a 0) :: st) σ ρ g τ Q := aw_gr m244 d244_33 rfl rfl rfl ht
theorem d244_36 : decode cX12_choose 36 = .ok (.bipush 7, 2) := by decide +kernel
theorem s244_36 {d : Nat} {st : List Value} {σ : am_I} {ρ : am_R} {g : am_J} {τ : am_T} {Q : am_Q} {x0 x1 x2 x3 x4 x5 : Value} : AW d 244 36 [x0, x1, x2, x3, x4, x5] (st) σ ρ g τ Q = AW d 244 38 [x0, x1, x2, x3, x4, x5] (.int 7 :: st) σ ρ g τ Q := aw_lc m244 d244_36 rfl rfl rfl
theorem d244_38 : decode cX12_choose 38 = .ok (.iaload, 1) := by decide +kernel
theorem s244_38 {d : Nat} {st : List Value} {σ : am_I} {ρ : am_R} {g : am_J} {τ : am_T} {Q : am_Q} {x0 x1 x2 x3 x4 x5 : Value} {a : Nat} {j : Int32} (ht : τ.1 a = 15) (hj : am_inb j (τ.2.1 a) = true) : AW d 244 38 [x0, x1, x2, x3, x4, x5] (.int j :: .ref a :: st) σ ρ g τ Q = AW d 244 39 [x0, x1, x2, x3, x4, x5] (.int (σ a j.toNatClampNeg) :: st) σ ρ g τ Q := aw_ial m244 d244_38 rfl ht hj
theorem d244_39 : decode cX12_choose 39 = .ok (.invokevirtual 431, 3) := by decide +kernel
theorem s244_39 {d : Nat} {st : List Value} {σ : am_I} {ρ : am_R} {g : am_J} {τ : am_T} {Q : am_Q} {x0 x1 x2 x3 x4 x5 : Value} {p0 : Nat} {p1 : Int32} {p2 : Int32} (ht : τ.1 p0 = 12) (hs : st.length ≤ 4) : AW (d + 1) 244 39 [x0, x1, x2, x3, x4, x5] (.int p2 :: .int p1 :: .ref p0 :: st) σ ρ g τ Q = AW d 242 0 [.ref p0, .int p1, .int p2, am_jk, am_jk, am_jk, am_jk] [] σ ρ g τ (fun r9 σ ρ g τ => AW (d + 1) 244 42 [x0, x1, x2, x3, x4, x5] (r9.toList ++ st) σ ρ g τ Q) := aw_cv m244 d244_39 rfl m242 rfl rfl (by decide) en242 ok242 rfl ht hs
theorem d244_42 : decode cX12_choose 42 = .ok (.istore 4, 2) := by decide +kernel
theorem s244_42 {d : Nat} {st : List Value} {σ : am_I} {ρ : am_R} {g : am_J} {τ : am_T} {Q : am_Q} {x0 x1 x2 x4 x5 : Value} {v : Int32} {u : Int32} : AW d 244 42 [x0, x1, x2, .int u, x4, x5] (.int v :: st) σ ρ g τ Q = AW d 244 44 [x0, x1, x2, .int u, .int v, x5] (st) σ ρ g τ Q := aw_lc m244 d244_42 rfl rfl rfl
theorem d244_44 : decode cX12_choose 44 = .ok (.iload 4, 2) := by decide +kernel
theorem s244_44 {d : Nat} {st : List Value} {σ : am_I} {ρ : am_R} {g : am_J} {τ : am_T} {Q : am_Q} {x0 x1 x2 x3 x5 : Value} {v : Int32} : AW d 244 44 [x0, x1, x2, x3, .int v, x5] (st) σ ρ g τ Q = AW d 244 46 [x0, x1, x2, x3, .int v, x5] (.int v :: st) σ ρ g τ Q := aw_lc m244 d244_44 rfl rfl rfl
theorem d244_46 : decode cX12_choose 46 = .ok (.iload_n 1, 1) := by decide +kernel
theorem s244_46 {d : Nat} {st : List Value} {σ : am_I} {ρ : am_R} {g : am_J} {τ : am_T} {Q : am_Q} {x0 x2 x3 x4 x5 : Value} {v : Int32} : AW d 244 46 [x0, .int v, x2, x3, x4, x5] (st) σ ρ g τ Q = AW d 244 47 [x0, .int v, x2, x3, x4, x5] (.int v :: st) σ ρ g τ Q := aw_lc m244 d244_46 rfl rfl rfl
theorem d244_47 : decode cX12_choose 47 = .ok (.if_icmp .ge 6, 3) := by decide +kernel
theorem s244_47 {d : Nat} {st : List Value} {σ : am_I} {ρ : am_R} {g : am_J} {τ : am_T} {Q : am_Q} {x0 x1 x2 x3 x4 x5 : Value} {v w : Int32} : AW d 244 47 [x0, x1, x2, x3, x4, x5] (.int w :: .int v :: st) σ ρ g τ Q = if w ≤ v then AW d 244 53 [x0, x1, x2, x3, x4, x5] (st) σ ρ g τ Q else AW d 244 50 [x0, x1, x2, x3, x4, x5] (st) σ ρ g τ Q := aw_br m244 d244_47 rfl rfl rfl
theorem d244_50 : decode cX12_choose 50 = .ok (.goto 52, 3) := by decide +kernel
theorem s244_50 {d : Nat} {st : List Value} {σ : am_I} {ρ : am_R} {g : am_J} {τ : am_T} {Q : am_Q} {x0 x1 x2 x3 x4 x5 : Value} : AW d 244 50 [x0, x1, x2, x3, x4, x5] (st) σ ρ g τ Q = AW d 244 102 [x0, x1, x2, x3, x4, x5] (st) σ ρ g τ Q := aw_lc m244 d244_50 rfl rfl rfl
theorem d244_53 : decode cX12_choose 53 = .ok (.iload_n 2, 1) := by decide +kernel
theorem s244_53 {d : Nat} {st : List Value} {σ : am_I} {ρ : am_R} {g : am_J} {τ : am_T} {Q : am_Q} {x0 x1 x3 x4 x5 : Value} {v : Int32} : AW d 244 53 [x0, x1, .int v, x3, x4, x5] (st) σ ρ g τ Q = AW d 244 54 [x0, x1, .int v, x3, x4, x5] (.int v :: st) σ ρ g τ Q := aw_lc m244 d244_53 rfl rfl rfl
theorem d244_54 : decode cX12_choose 54 = .ok (.ifCond .lt 46, 3) := by decide +kernel
theorem s244_54 {d : Nat} {st : List Value} {σ : am_I} {ρ : am_R} {g : am_J} {τ : am_T} {Q : am_Q} {x0 x1 x2 x3 x4 x5 : Value} {v : Int32} : AW d 244 54 [x0, x1, x2, x3, x4, x5] (.int v :: st) σ ρ g τ Q = if v < 0 then AW d 244 100 [x0, x1, x2, x3, x4, x5] (st) σ ρ g τ Q else AW d 244 57 [x0, x1, x2, x3, x4, x5] (st) σ ρ g τ Q := aw_br m244 d244_54 rfl rfl rfl
theorem d244_57 : decode cX12_choose 57 = .ok (.aload_n 0, 1) := by decide +kernel
theorem s244_57 {d : Nat} {st : List Value} {σ : am_I} {ρ : am_R} {g : am_J} {τ : am_T} {Q : am_Q} {x1 x2 x3 x4 x5 : Value} {v : Nat} : AW d 244 57 [.ref v, x1, x2, x3, x4, x5] (st) σ ρ g τ Q = AW d 244 58 [.ref v, x1, x2, x3, x4, x5] (.ref v :: st) σ ρ g τ Q := aw_lc m244 d244_57 rfl rfl rfl
theorem d244_58 : decode cX12_choose 58 = .ok (.iload_n 2, 1) := by decide +kernel
theorem s244_58 {d : Nat} {st : List Value} {σ : am_I} {ρ : am_R} {g : am_J} {τ : am_T} {Q : am_Q} {x0 x1 x3 x4 x5 : Value} {v : Int32} : AW d 244 58 [x0, x1, .int v, x3, x4, x5] (st) σ ρ g τ Q = AW d 244 59 [x0, x1, .int v, x3, x4, x5] (.int v :: st) σ ρ g τ Q := aw_lc m244 d244_58 rfl rfl rfl
theorem d244_59 : decode cX12_choose 59 = .ok (.invokevirtual 434, 3) := by decide +kernel
theorem s244_59 {d : Nat} {st : List Value} {σ : am_I} {ρ : am_R} {g : am_J} {τ : am_T} {Q : am_Q} {x0 x1 x2 x3 x4 x5 : Value} {p0 : Nat} {p1 : Int32} (ht : τ.1 p0 = 12) (hs : st.length ≤ 4) : AW (d + 1) 244 59 [x0, x1, x2, x3, x4, x5] (.int p1 :: .ref p0 :: st) σ ρ g τ Q = AW d 243 0 [.ref p0, .int p1, am_jk, am_jk] [] σ ρ g τ (fun r9 σ ρ g τ => AW (d + 1) 244 62 [x0, x1, x2, x3, x4, x5] (r9.toList ++ st) σ ρ g τ Q) := aw_cv m244 d244_59 rfl m243 rfl rfl (by decide) en243 ok243 rfl ht hs
theorem d244_62 : decode cX12_choose 62 = .ok (.aload_n 0, 1) := by decide +kernel
theorem s244_62 {d : Nat} {st : List Value} {σ : am_I} {ρ : am_R} {g : am_J} {τ : am_T} {Q : am_Q} {x1 x2 x3 x4 x5 : Value} {v : Nat} : AW d 244 62 [.ref v, x1, x2, x3, x4, x5] (st) σ ρ g τ Q = AW d 244 63 [.ref v, x1, x2, x3, x4, x5] (.ref v :: st) σ ρ g τ Q := aw_lc m244 d244_62 rfl rfl rfl
theorem d244_63 : decode cX12_choose 63 = .ok (.iload_n 3, 1) := by decide +kernel
theorem s244_63 {d : Nat} {st : List Value} {σ : am_I} {ρ : am_R} {g : am_J} {τ : am_T} {Q : am_Q} {x0 x1 x2 x4 x5 : Value} {v : Int32} : AW d 244 63 [x0, x1, x2, .int v, x4, x5] (st) σ ρ g τ Q = AW d 244 64 [x0, x1, x2, .int v, x4, x5] (.int v :: st) σ ρ g τ Q := aw_lc m244 d244_63 rfl rfl rfl
theorem d244_64 : decode cX12_choose 64 = .ok (.invokevirtual 434, 3) := by decide +kernel
theorem s244_64 {d : Nat} {st : List Value} {σ : am_I} {ρ : am_R} {g : am_J} {τ : am_T} {Q : am_Q} {x0 x1 x2 x3 x4 x5 : Value} {p0 : Nat} {p1 : Int32} (ht : τ.1 p0 = 12) (hs : st.length ≤ 4) : AW (d + 1) 244 64 [x0, x1, x2, x3, x4, x5] (.int p1 :: .ref p0 :: st) σ ρ g τ Q = AW d 243 0 [.ref p0, .int p1, am_jk, am_jk] [] σ ρ g τ (fun r9 σ ρ g τ => AW (d + 1) 244 67 [x0, x1, x2, x3, x4, x5] (r9.toList ++ st) σ ρ g τ Q) := aw_cv m244 d244_64 rfl m243 rfl rfl (by decide) en243 ok243 rfl ht hs
theorem d244_67 : decode cX12_choose 67 = .ok (.isub, 1) := by decide +kernel
theorem s244_67 {d : Nat} {st : List Value} {σ : am_I} {ρ : am_R} {g : am_J} {τ : am_T} {Q : am_Q} {x0 x1 x2 x3 x4 x5 : Value} {v w : Int32} : AW d 244 67 [x0, x1, x2, x3, x4, x5] (.int w :: .int v :: st) σ ρ g τ Q = AW d 244 68 [x0, x1, x2, x3, x4, x5] (.int (v - w) :: st) σ ρ g τ Q := aw_lc m244 d244_67 rfl rfl rfl
theorem d244_68 : decode cX12_choose 68 = .ok (.istore 5, 2) := by decide +kernel
theorem s244_68 {d : Nat} {st : List Value} {σ : am_I} {ρ : am_R} {g : am_J} {τ : am_T} {Q : am_Q} {x0 x1 x2 x3 x5 : Value} {v : Int32} {u : Int32} : AW d 244 68 [x0, x1, x2, x3, .int u, x5] (.int v :: st) σ ρ g τ Q = AW d 244 70 [x0, x1, x2, x3, .int u, .int v] (st) σ ρ g τ Q := aw_lc m244 d244_68 rfl rfl rfl
theorem d244_70 : decode cX12_choose 70 = .ok (.iload 5, 2) := by decide +kernel
theorem s244_70 {d : Nat} {st : List Value} {σ : am_I} {ρ : am_R} {g : am_J} {τ : am_T} {Q : am_Q} {x0 x1 x2 x3 x4 : Value} {v : Int32} : AW d 244 70 [x0, x1, x2, x3, x4, .int v] (st) σ ρ g τ Q = AW d 244 72 [x0, x1, x2, x3, x4, .int v] (.int v :: st) σ ρ g τ Q := aw_lc m244 d244_70 rfl rfl rfl
theorem d244_72 : decode cX12_choose 72 = .ok (.ifCond .lt 30, 3) := by decide +kernel
theorem s244_72 {d : Nat} {st : List Value} {σ : am_I} {ρ : am_R} {g : am_J} {τ : am_T} {Q : am_Q} {x0 x1 x2 x3 x4 x5 : Value} {v : Int32} : AW d 244 72 [x0, x1, x2, x3, x4, x5] (.int v :: st) σ ρ g τ Q = if v < 0 then AW d 244 102 [x0, x1, x2, x3, x4, x5] (st) σ ρ g τ Q else AW d 244 75 [x0, x1, x2, x3, x4, x5] (st) σ ρ g τ Q := aw_br m244 d244_72 rfl rfl rfl
theorem d244_75 : decode cX12_choose 75 = .ok (.iload 5, 2) := by decide +kernel
theorem s244_75 {d : Nat} {st : List Value} {σ : am_I} {ρ : am_R} {g : am_J} {τ : am_T} {Q : am_Q} {x0 x1 x2 x3 x4 : Value} {v : Int32} : AW d 244 75 [x0, x1, x2, x3, x4, .int v] (st) σ ρ g τ Q = AW d 244 77 [x0, x1, x2, x3, x4, .int v] (.int v :: st) σ ρ g τ Q := aw_lc m244 d244_75 rfl rfl rfl
theorem d244_77 : decode cX12_choose 77 = .ok (.ifCond .ne 23, 3) := by decide +kernel
theorem s244_77 {d : Nat} {st : List Value} {σ : am_I} {ρ : am_R} {g : am_J} {τ : am_T} {Q : am_Q} {x0 x1 x2 x3 x4 x5 : Value} {v : Int32} : AW d 244 77 [x0, x1, x2, x3, x4, x5] (.int v :: st) σ ρ g τ Q = if ¬ v = 0 then AW d 244 100 [x0, x1, x2, x3, x4, x5] (st) σ ρ g τ Q else AW d 244 80 [x0, x1, x2, x3, x4, x5] (st) σ ρ g τ Q := aw_br m244 d244_77 rfl rfl rfl
theorem d244_80 : decode cX12_choose 80 = .ok (.iload 4, 2) := by decide +kernel
theorem s244_80 {d : Nat} {st : List Value} {σ : am_I} {ρ : am_R} {g : am_J} {τ : am_T} {Q : am_Q} {x0 x1 x2 x3 x5 : Value} {v : Int32} : AW d 244 80 [x0, x1, x2, x3, .int v, x5] (st) σ ρ g τ Q = AW d 244 82 [x0, x1, x2, x3, .int v, x5] (.int v :: st) σ ρ g τ Q := aw_lc m244 d244_80 rfl rfl rfl
theorem d244_82 : decode cX12_choose 82 = .ok (.aload_n 0, 1) := by decide +kernel
theorem s244_82 {d : Nat} {st : List Value} {σ : am_I} {ρ : am_R} {g : am_J} {τ : am_T} {Q : am_Q} {x1 x2 x3 x4 x5 : Value} {v : Nat} : AW d 244 82 [.ref v, x1, x2, x3, x4, x5] (st) σ ρ g τ Q = AW d 244 83 [.ref v, x1, x2, x3, x4, x5] (.ref v :: st) σ ρ g τ Q := aw_lc m244 d244_82 rfl rfl rfl
theorem d244_83 : decode cX12_choose 83 = .ok (.iload_n 2, 1) := by decide +kernel
theorem s244_83 {d : Nat} {st : List Value} {σ : am_I} {ρ : am_R} {g : am_J} {τ : am_T} {Q : am_Q} {x0 x1 x3 x4 x5 : Value} {v : Int32} : AW d 244 83 [x0, x1, .int v, x3, x4, x5] (st) σ ρ g τ Q = AW d 244 84 [x0, x1, .int v, x3, x4, x5] (.int v :: st) σ ρ g τ Q := aw_lc m244 d244_83 rfl rfl rfl
theorem d244_84 : decode cX12_choose 84 = .ok (.aload_n 0, 1) := by decide +kernel
theorem s244_84 {d : Nat} {st : List Value} {σ : am_I} {ρ : am_R} {g : am_J} {τ : am_T} {Q : am_Q} {x1 x2 x3 x4 x5 : Value} {v : Nat} : AW d 244 84 [.ref v, x1, x2, x3, x4, x5] (st) σ ρ g τ Q = AW d 244 85 [.ref v, x1, x2, x3, x4, x5] (.ref v :: st) σ ρ g τ Q := aw_lc m244 d244_84 rfl rfl rfl
theorem d244_85 : decode cX12_choose 85 = .ok (.getfield 9, 3) := by decide +kernel
theorem s244_85 {d : Nat} {st : List Value} {σ : am_I} {ρ : am_R} {g : am_J} {τ : am_T} {Q : am_Q} {x0 x1 x2 x3 x4 x5 : Value} {a : Nat} (ht : τ.1 a = 12) : AW d 244 85 [x0, x1, x2, x3, x4, x5] (.ref a :: st) σ ρ g τ Q = AW d 244 88 [x0, x1, x2, x3, x4, x5] (va_rf (ρ a 0) :: st) σ ρ g τ Q := aw_gr m244 d244_85 rfl rfl rfl ht
theorem d244_88 : decode cX12_choose 88 = .ok (.bipush 7, 2) := by decide +kernel
theorem s244_88 {d : Nat} {st : List Value} {σ : am_I} {ρ : am_R} {g : am_J} {τ : am_T} {Q : am_Q} {x0 x1 x2 x3 x4 x5 : Value} : AW d 244 88 [x0, x1, x2, x3, x4, x5] (st) σ ρ g τ Q = AW d 244 90 [x0, x1, x2, x3, x4, x5] (.int 7 :: st) σ ρ g τ Q := aw_lc m244 d244_88 rfl rfl rfl
theorem d244_90 : decode cX12_choose 90 = .ok (.iaload, 1) := by decide +kernel
theorem s244_90 {d : Nat} {st : List Value} {σ : am_I} {ρ : am_R} {g : am_J} {τ : am_T} {Q : am_Q} {x0 x1 x2 x3 x4 x5 : Value} {a : Nat} {j : Int32} (ht : τ.1 a = 15) (hj : am_inb j (τ.2.1 a) = true) : AW d 244 90 [x0, x1, x2, x3, x4, x5] (.int j :: .ref a :: st) σ ρ g τ Q = AW d 244 91 [x0, x1, x2, x3, x4, x5] (.int (σ a j.toNatClampNeg) :: st) σ ρ g τ Q := aw_ial m244 d244_90 rfl ht hj
theorem d244_91 : decode cX12_choose 91 = .ok (.invokevirtual 431, 3) := by decide +kernel
theorem s244_91 {d : Nat} {st : List Value} {σ : am_I} {ρ : am_R} {g : am_J} {τ : am_T} {Q : am_Q} {x0 x1 x2 x3 x4 x5 : Value} {p0 : Nat} {p1 : Int32} {p2 : Int32} (ht : τ.1 p0 = 12) (hs : st.length ≤ 4) : AW (d + 1) 244 91 [x0, x1, x2, x3, x4, x5] (.int p2 :: .int p1 :: .ref p0 :: st) σ ρ g τ Q = AW d 242 0 [.ref p0, .int p1, .int p2, am_jk, am_jk, am_jk, am_jk] [] σ ρ g τ (fun r9 σ ρ g τ => AW (d + 1) 244 94 [x0, x1, x2, x3, x4, x5] (r9.toList ++ st) σ ρ g τ Q) := aw_cv m244 d244_91 rfl m242 rfl rfl (by decide) en242 ok242 rfl ht hs
theorem d244_94 : decode cX12_choose 94 = .ok (.if_icmp .gt 6, 3) := by decide +kernel
theorem s244_94 {d : Nat} {st : List Value} {σ : am_I} {ρ : am_R} {g : am_J} {τ : am_T} {Q : am_Q} {x0 x1 x2 x3 x4 x5 : Value} {v w : Int32} : AW d 244 94 [x0, x1, x2, x3, x4, x5] (.int w :: .int v :: st) σ ρ g τ Q = if w < v then AW d 244 100 [x0, x1, x2, x3, x4, x5] (st) σ ρ g τ Q else AW d 244 97 [x0, x1, x2, x3, x4, x5] (st) σ ρ g τ Q := aw_br m244 d244_94 rfl rfl rfl
theorem d244_97 : decode cX12_choose 97 = .ok (.goto 5, 3) := by decide +kernel
theorem s244_97 {d : Nat} {st : List Value} {σ : am_I} {ρ : am_R} {g : am_J} {τ : am_T} {Q : am_Q} {x0 x1 x2 x3 x4 x5 : Value} : AW d 244 97 [x0, x1, x2, x3, x4, x5] (st) σ ρ g τ Q = AW d 244 102 [x0, x1, x2, x3, x4, x5] (st) σ ρ g τ Q := aw_lc m244 d244_97 rfl rfl rfl
theorem d244_100 : decode cX12_choose 100 = .ok (.iload_n 3, 1) := by decide +kernel
theorem s244_100 {d : Nat} {st : List Value} {σ : am_I} {ρ : am_R} {g : am_J} {τ : am_T} {Q : am_Q} {x0 x1 x2 x4 x5 : Value} {v : Int32} : AW d 244 100 [x0, x1, x2, .int v, x4, x5] (st) σ ρ g τ Q = AW d 244 101 [x0, x1, x2, .int v, x4, x5] (.int v :: st) σ ρ g τ Q := aw_lc m244 d244_100 rfl rfl rfl
theorem d244_101 : decode cX12_choose 101 = .ok (.istore_n 2, 1) := by decide +kernel
theorem s244_101 {d : Nat} {st : List Value} {σ : am_I} {ρ : am_R} {g : am_J} {τ : am_T} {Q : am_Q} {x0 x2 x3 x4 x5 : Value} {v : Int32} {u : Int32} : AW d 244 101 [x0, .int u, x2, x3, x4, x5] (.int v :: st) σ ρ g τ Q = AW d 244 102 [x0, .int u, .int v, x3, x4, x5] (st) σ ρ g τ Q := aw_lc m244 d244_101 rfl rfl rfl
theorem d244_102 : decode cX12_choose 102 = .ok (.iinc 3 1, 3) := by decide +kernel
theorem s244_102 {d : Nat} {st : List Value} {σ : am_I} {ρ : am_R} {g : am_J} {τ : am_T} {Q : am_Q} {x0 x1 x4 x5 : Value} {v : Int32} {u : Int32} : AW d 244 102 [x0, x1, .int u, .int v, x4, x5] (st) σ ρ g τ Q = AW d 244 105 [x0, x1, .int u, .int (v + 1), x4, x5] (st) σ ρ g τ Q := aw_lc m244 d244_102 rfl rfl rfl
theorem d244_105 : decode cX12_choose 105 = .ok (.goto (-88), 3) := by decide +kernel
theorem s244_105 {d : Nat} {st : List Value} {σ : am_I} {ρ : am_R} {g : am_J} {τ : am_T} {Q : am_Q} {x0 x1 x2 x3 x4 x5 : Value} : AW d 244 105 [x0, x1, x2, x3, x4, x5] (st) σ ρ g τ Q = AW d 244 17 [x0, x1, x2, x3, x4, x5] (st) σ ρ g τ Q := aw_lc m244 d244_105 rfl rfl rfl
theorem d244_108 : decode cX12_choose 108 = .ok (.iload_n 2, 1) := by decide +kernel
theorem s244_108 {d : Nat} {st : List Value} {σ : am_I} {ρ : am_R} {g : am_J} {τ : am_T} {Q : am_Q} {x0 x1 x3 x4 x5 : Value} {v : Int32} : AW d 244 108 [x0, x1, .int v, x3, x4, x5] (st) σ ρ g τ Q = AW d 244 109 [x0, x1, .int v, x3, x4, x5] (.int v :: st) σ ρ g τ Q := aw_lc m244 d244_108 rfl rfl rfl
theorem d244_109 : decode cX12_choose 109 = .ok (.ifCond .ge 6, 3) := by decide +kernel
theorem s244_109 {d : Nat} {st : List Value} {σ : am_I} {ρ : am_R} {g : am_J} {τ : am_T} {Q : am_Q} {x0 x1 x2 x3 x4 x5 : Value} {v : Int32} : AW d 244 109 [x0, x1, x2, x3, x4, x5] (.int v :: st) σ ρ g τ Q = if 0 ≤ v then AW d 244 115 [x0, x1, x2, x3, x4, x5] (st) σ ρ g τ Q else AW d 244 112 [x0, x1, x2, x3, x4, x5] (st) σ ρ g τ Q := aw_br m244 d244_109 rfl rfl rfl
theorem d244_112 : decode cX12_choose 112 = .ok (.bipush (-3), 2) := by decide +kernel
theorem s244_112 {d : Nat} {st : List Value} {σ : am_I} {ρ : am_R} {g : am_J} {τ : am_T} {Q : am_Q} {x0 x1 x2 x3 x4 x5 : Value} : AW d 244 112 [x0, x1, x2, x3, x4, x5] (st) σ ρ g τ Q = AW d 244 114 [x0, x1, x2, x3, x4, x5] (.int (-3) :: st) σ ρ g τ Q := aw_lc m244 d244_112 rfl rfl rfl
theorem d244_114 : decode cX12_choose 114 = .ok (.ireturn, 1) := by decide +kernel
theorem s244_114 {d : Nat} {σ : am_I} {ρ : am_R} {g : am_J} {τ : am_T} {Q : am_Q} {x0 x1 x2 x3 x4 x5 : Value} {v : Int32} : AW d 244 114 [x0, x1, x2, x3, x4, x5] ([.int v]) σ ρ g τ Q = Q (some (.int v)) σ ρ g τ := aw_ri m244 d244_114 rfl
theorem d244_115 : decode cX12_choose 115 = .ok (.aload_n 0, 1) := by decide +kernel
theorem s244_115 {d : Nat} {st : List Value} {σ : am_I} {ρ : am_R} {g : am_J} {τ : am_T} {Q : am_Q} {x1 x2 x3 x4 x5 : Value} {v : Nat} : AW d 244 115 [.ref v, x1, x2, x3, x4, x5] (st) σ ρ g τ Q = AW d 244 116 [.ref v, x1, x2, x3, x4, x5] (.ref v :: st) σ ρ g τ Q := aw_lc m244 d244_115 rfl rfl rfl
theorem d244_116 : decode cX12_choose 116 = .ok (.iconst 0, 1) := by decide +kernel
theorem s244_116 {d : Nat} {st : List Value} {σ : am_I} {ρ : am_R} {g : am_J} {τ : am_T} {Q : am_Q} {x0 x1 x2 x3 x4 x5 : Value} : AW d 244 116 [x0, x1, x2, x3, x4, x5] (st) σ ρ g τ Q = AW d 244 117 [x0, x1, x2, x3, x4, x5] (.int 0 :: st) σ ρ g τ Q := aw_lc m244 d244_116 rfl rfl rfl
theorem d244_117 : decode cX12_choose 117 = .ok (.putfield 437, 3) := by decide +kernel
theorem s244_117 {d : Nat} {st : List Value} {σ : am_I} {ρ : am_R} {g : am_J} {τ : am_T} {Q : am_Q} {x0 x1 x2 x3 x4 x5 : Value} {a : Nat} {v : Int32} (ht : τ.1 a = 12) : AW d 244 117 [x0, x1, x2, x3, x4, x5] (.int v :: .ref a :: st) σ ρ g τ Q = AW d 244 120 [x0, x1, x2, x3, x4, x5] (st) (am_u σ a 47 v) ρ g τ Q := aw_pi m244 d244_117 rfl rfl (Or.inl rfl) rfl ht
theorem d244_120 : decode cX12_choose 120 = .ok (.iconst 0, 1) := by decide +kernel
theorem s244_120 {d : Nat} {st : List Value} {σ : am_I} {ρ : am_R} {g : am_J} {τ : am_T} {Q : am_Q} {x0 x1 x2 x3 x4 x5 : Value} : AW d 244 120 [x0, x1, x2, x3, x4, x5] (st) σ ρ g τ Q = AW d 244 121 [x0, x1, x2, x3, x4, x5] (.int 0 :: st) σ ρ g τ Q := aw_lc m244 d244_120 rfl rfl rfl
theorem d244_121 : decode cX12_choose 121 = .ok (.istore_n 3, 1) := by decide +kernel
theorem s244_121 {d : Nat} {st : List Value} {σ : am_I} {ρ : am_R} {g : am_J} {τ : am_T} {Q : am_Q} {x0 x1 x3 x4 x5 : Value} {v : Int32} {u : Int32} : AW d 244 121 [x0, x1, .int u, x3, x4, x5] (.int v :: st) σ ρ g τ Q = AW d 244 122 [x0, x1, .int u, .int v, x4, x5] (st) σ ρ g τ Q := aw_lc m244 d244_121 rfl rfl rfl
theorem d244_122 : decode cX12_choose 122 = .ok (.iload_n 3, 1) := by decide +kernel
theorem s244_122 {d : Nat} {st : List Value} {σ : am_I} {ρ : am_R} {g : am_J} {τ : am_T} {Q : am_Q} {x0 x1 x2 x4 x5 : Value} {v : Int32} : AW d 244 122 [x0, x1, x2, .int v, x4, x5] (st) σ ρ g τ Q = AW d 244 123 [x0, x1, x2, .int v, x4, x5] (.int v :: st) σ ρ g τ Q := aw_lc m244 d244_122 rfl rfl rfl
theorem d244_123 : decode cX12_choose 123 = .ok (.aload_n 0, 1) := by decide +kernel
theorem s244_123 {d : Nat} {st : List Value} {σ : am_I} {ρ : am_R} {g : am_J} {τ : am_T} {Q : am_Q} {x1 x2 x3 x4 x5 : Value} {v : Nat} : AW d 244 123 [.ref v, x1, x2, x3, x4, x5] (st) σ ρ g τ Q = AW d 244 124 [.ref v, x1, x2, x3, x4, x5] (.ref v :: st) σ ρ g τ Q := aw_lc m244 d244_123 rfl rfl rfl
theorem d244_124 : decode cX12_choose 124 = .ok (.getfield 9, 3) := by decide +kernel
theorem s244_124 {d : Nat} {st : List Value} {σ : am_I} {ρ : am_R} {g : am_J} {τ : am_T} {Q : am_Q} {x0 x1 x2 x3 x4 x5 : Value} {a : Nat} (ht : τ.1 a = 12) : AW d 244 124 [x0, x1, x2, x3, x4, x5] (.ref a :: st) σ ρ g τ Q = AW d 244 127 [x0, x1, x2, x3, x4, x5] (va_rf (ρ a 0) :: st) σ ρ g τ Q := aw_gr m244 d244_124 rfl rfl rfl ht
theorem d244_127 : decode cX12_choose 127 = .ok (.bipush 7, 2) := by decide +kernel
theorem s244_127 {d : Nat} {st : List Value} {σ : am_I} {ρ : am_R} {g : am_J} {τ : am_T} {Q : am_Q} {x0 x1 x2 x3 x4 x5 : Value} : AW d 244 127 [x0, x1, x2, x3, x4, x5] (st) σ ρ g τ Q = AW d 244 129 [x0, x1, x2, x3, x4, x5] (.int 7 :: st) σ ρ g τ Q := aw_lc m244 d244_127 rfl rfl rfl
theorem d244_129 : decode cX12_choose 129 = .ok (.iaload, 1) := by decide +kernel
theorem s244_129 {d : Nat} {st : List Value} {σ : am_I} {ρ : am_R} {g : am_J} {τ : am_T} {Q : am_Q} {x0 x1 x2 x3 x4 x5 : Value} {a : Nat} {j : Int32} (ht : τ.1 a = 15) (hj : am_inb j (τ.2.1 a) = true) : AW d 244 129 [x0, x1, x2, x3, x4, x5] (.int j :: .ref a :: st) σ ρ g τ Q = AW d 244 130 [x0, x1, x2, x3, x4, x5] (.int (σ a j.toNatClampNeg) :: st) σ ρ g τ Q := aw_ial m244 d244_129 rfl ht hj
theorem d244_130 : decode cX12_choose 130 = .ok (.if_icmp .ge 57, 3) := by decide +kernel
theorem s244_130 {d : Nat} {st : List Value} {σ : am_I} {ρ : am_R} {g : am_J} {τ : am_T} {Q : am_Q} {x0 x1 x2 x3 x4 x5 : Value} {v w : Int32} : AW d 244 130 [x0, x1, x2, x3, x4, x5] (.int w :: .int v :: st) σ ρ g τ Q = if w ≤ v then AW d 244 187 [x0, x1, x2, x3, x4, x5] (st) σ ρ g τ Q else AW d 244 133 [x0, x1, x2, x3, x4, x5] (st) σ ρ g τ Q := aw_br m244 d244_130 rfl rfl rfl
theorem d244_133 : decode cX12_choose 133 = .ok (.iload_n 2, 1) := by decide +kernel
theorem s244_133 {d : Nat} {st : List Value} {σ : am_I} {ρ : am_R} {g : am_J} {τ : am_T} {Q : am_Q} {x0 x1 x3 x4 x5 : Value} {v : Int32} : AW d 244 133 [x0, x1, .int v, x3, x4, x5] (st) σ ρ g τ Q = AW d 244 134 [x0, x1, .int v, x3, x4, x5] (.int v :: st) σ ρ g τ Q := aw_lc m244 d244_133 rfl rfl rfl
theorem d244_134 : decode cX12_choose 134 = .ok (.iload_n 3, 1) := by decide +kernel
theorem s244_134 {d : Nat} {st : List Value} {σ : am_I} {ρ : am_R} {g : am_J} {τ : am_T} {Q : am_Q} {x0 x1 x2 x4 x5 : Value} {v : Int32} : AW d 244 134 [x0, x1, x2, .int v, x4, x5] (st) σ ρ g τ Q = AW d 244 135 [x0, x1, x2, .int v, x4, x5] (.int v :: st) σ ρ g τ Q := aw_lc m244 d244_134 rfl rfl rfl
theorem d244_135 : decode cX12_choose 135 = .ok (.ishr, 1) := by decide +kernel
theorem s244_135 {d : Nat} {st : List Value} {σ : am_I} {ρ : am_R} {g : am_J} {τ : am_T} {Q : am_Q} {x0 x1 x2 x3 x4 x5 : Value} {v w : Int32} : AW d 244 135 [x0, x1, x2, x3, x4, x5] (.int w :: .int v :: st) σ ρ g τ Q = AW d 244 136 [x0, x1, x2, x3, x4, x5] (.int (v >>> (w &&& 31)) :: st) σ ρ g τ Q := aw_lc m244 d244_135 rfl rfl rfl
theorem d244_136 : decode cX12_choose 136 = .ok (.iconst 1, 1) := by decide +kernel
theorem s244_136 {d : Nat} {st : List Value} {σ : am_I} {ρ : am_R} {g : am_J} {τ : am_T} {Q : am_Q} {x0 x1 x2 x3 x4 x5 : Value} : AW d 244 136 [x0, x1, x2, x3, x4, x5] (st) σ ρ g τ Q = AW d 244 137 [x0, x1, x2, x3, x4, x5] (.int 1 :: st) σ ρ g τ Q := aw_lc m244 d244_136 rfl rfl rfl
theorem d244_137 : decode cX12_choose 137 = .ok (.iand, 1) := by decide +kernel
theorem s244_137 {d : Nat} {st : List Value} {σ : am_I} {ρ : am_R} {g : am_J} {τ : am_T} {Q : am_Q} {x0 x1 x2 x3 x4 x5 : Value} {v w : Int32} : AW d 244 137 [x0, x1, x2, x3, x4, x5] (.int w :: .int v :: st) σ ρ g τ Q = AW d 244 138 [x0, x1, x2, x3, x4, x5] (.int (v &&& w) :: st) σ ρ g τ Q := aw_lc m244 d244_137 rfl rfl rfl
theorem d244_138 : decode cX12_choose 138 = .ok (.ifCond .ne 6, 3) := by decide +kernel
theorem s244_138 {d : Nat} {st : List Value} {σ : am_I} {ρ : am_R} {g : am_J} {τ : am_T} {Q : am_Q} {x0 x1 x2 x3 x4 x5 : Value} {v : Int32} : AW d 244 138 [x0, x1, x2, x3, x4, x5] (.int v :: st) σ ρ g τ Q = if ¬ v = 0 then AW d 244 144 [x0, x1, x2, x3, x4, x5] (st) σ ρ g τ Q else AW d 244 141 [x0, x1, x2, x3, x4, x5] (st) σ ρ g τ Q := aw_br m244 d244_138 rfl rfl rfl
theorem d244_141 : decode cX12_choose 141 = .ok (.goto 40, 3) := by decide +kernel
theorem s244_141 {d : Nat} {st : List Value} {σ : am_I} {ρ : am_R} {g : am_J} {τ : am_T} {Q : am_Q} {x0 x1 x2 x3 x4 x5 : Value} : AW d 244 141 [x0, x1, x2, x3, x4, x5] (st) σ ρ g τ Q = AW d 244 181 [x0, x1, x2, x3, x4, x5] (st) σ ρ g τ Q := aw_lc m244 d244_141 rfl rfl rfl
theorem d244_144 : decode cX12_choose 144 = .ok (.aload_n 0, 1) := by decide +kernel
theorem s244_144 {d : Nat} {st : List Value} {σ : am_I} {ρ : am_R} {g : am_J} {τ : am_T} {Q : am_Q} {x1 x2 x3 x4 x5 : Value} {v : Nat} : AW d 244 144 [.ref v, x1, x2, x3, x4, x5] (st) σ ρ g τ Q = AW d 244 145 [.ref v, x1, x2, x3, x4, x5] (.ref v :: st) σ ρ g τ Q := aw_lc m244 d244_144 rfl rfl rfl
theorem d244_145 : decode cX12_choose 145 = .ok (.getfield 141, 3) := by decide +kernel
theorem s244_145 {d : Nat} {st : List Value} {σ : am_I} {ρ : am_R} {g : am_J} {τ : am_T} {Q : am_Q} {x0 x1 x2 x3 x4 x5 : Value} {a : Nat} (ht : τ.1 a = 12) : AW d 244 145 [x0, x1, x2, x3, x4, x5] (.ref a :: st) σ ρ g τ Q = AW d 244 148 [x0, x1, x2, x3, x4, x5] (va_rf (ρ a 45) :: st) σ ρ g τ Q := aw_gr m244 d244_145 rfl rfl rfl ht
theorem d244_148 : decode cX12_choose 148 = .ok (.aload_n 0, 1) := by decide +kernel
theorem s244_148 {d : Nat} {st : List Value} {σ : am_I} {ρ : am_R} {g : am_J} {τ : am_T} {Q : am_Q} {x1 x2 x3 x4 x5 : Value} {v : Nat} : AW d 244 148 [.ref v, x1, x2, x3, x4, x5] (st) σ ρ g τ Q = AW d 244 149 [.ref v, x1, x2, x3, x4, x5] (.ref v :: st) σ ρ g τ Q := aw_lc m244 d244_148 rfl rfl rfl
theorem d244_149 : decode cX12_choose 149 = .ok (.getfield 437, 3) := by decide +kernel
theorem s244_149 {d : Nat} {st : List Value} {σ : am_I} {ρ : am_R} {g : am_J} {τ : am_T} {Q : am_Q} {x0 x1 x2 x3 x4 x5 : Value} {a : Nat} (ht : τ.1 a = 12) : AW d 244 149 [x0, x1, x2, x3, x4, x5] (.ref a :: st) σ ρ g τ Q = AW d 244 152 [x0, x1, x2, x3, x4, x5] (.int (σ a 47) :: st) σ ρ g τ Q := aw_gi m244 d244_149 rfl rfl rfl ht
theorem d244_152 : decode cX12_choose 152 = .ok (.iload_n 3, 1) := by decide +kernel
theorem s244_152 {d : Nat} {st : List Value} {σ : am_I} {ρ : am_R} {g : am_J} {τ : am_T} {Q : am_Q} {x0 x1 x2 x4 x5 : Value} {v : Int32} : AW d 244 152 [x0, x1, x2, .int v, x4, x5] (st) σ ρ g τ Q = AW d 244 153 [x0, x1, x2, .int v, x4, x5] (.int v :: st) σ ρ g τ Q := aw_lc m244 d244_152 rfl rfl rfl
theorem d244_153 : decode cX12_choose 153 = .ok (.iastore, 1) := by decide +kernel
theorem s244_153 {d : Nat} {st : List Value} {σ : am_I} {ρ : am_R} {g : am_J} {τ : am_T} {Q : am_Q} {x0 x1 x2 x3 x4 x5 : Value} {a : Nat} {j v : Int32} (ht : τ.1 a = 15) (ha : a < am_BG) (hj : am_inb j (τ.2.1 a) = true) : AW d 244 153 [x0, x1, x2, x3, x4, x5] (.int v :: .int j :: .ref a :: st) σ ρ g τ Q = AW d 244 154 [x0, x1, x2, x3, x4, x5] (st) (am_u σ a j.toNatClampNeg v) ρ g τ Q := aw_ias m244 d244_153 rfl ht ha hj
theorem d244_154 : decode cX12_choose 154 = .ok (.aload_n 0, 1) := by decide +kernel
theorem s244_154 {d : Nat} {st : List Value} {σ : am_I} {ρ : am_R} {g : am_J} {τ : am_T} {Q : am_Q} {x1 x2 x3 x4 x5 : Value} {v : Nat} : AW d 244 154 [.ref v, x1, x2, x3, x4, x5] (st) σ ρ g τ Q = AW d 244 155 [.ref v, x1, x2, x3, x4, x5] (.ref v :: st) σ ρ g τ Q := aw_lc m244 d244_154 rfl rfl rfl
theorem d244_155 : decode cX12_choose 155 = .ok (.getfield 144, 3) := by decide +kernel
theorem s244_155 {d : Nat} {st : List Value} {σ : am_I} {ρ : am_R} {g : am_J} {τ : am_T} {Q : am_Q} {x0 x1 x2 x3 x4 x5 : Value} {a : Nat} (ht : τ.1 a = 12) : AW d 244 155 [x0, x1, x2, x3, x4, x5] (.ref a :: st) σ ρ g τ Q = AW d 244 158 [x0, x1, x2, x3, x4, x5] (va_rf (ρ a 46) :: st) σ ρ g τ Q := aw_gr m244 d244_155 rfl rfl rfl ht
theorem d244_158 : decode cX12_choose 158 = .ok (.aload_n 0, 1) := by decide +kernel
theorem s244_158 {d : Nat} {st : List Value} {σ : am_I} {ρ : am_R} {g : am_J} {τ : am_T} {Q : am_Q} {x1 x2 x3 x4 x5 : Value} {v : Nat} : AW d 244 158 [.ref v, x1, x2, x3, x4, x5] (st) σ ρ g τ Q = AW d 244 159 [.ref v, x1, x2, x3, x4, x5] (.ref v :: st) σ ρ g τ Q := aw_lc m244 d244_158 rfl rfl rfl
theorem d244_159 : decode cX12_choose 159 = .ok (.getfield 437, 3) := by decide +kernel
theorem s244_159 {d : Nat} {st : List Value} {σ : am_I} {ρ : am_R} {g : am_J} {τ : am_T} {Q : am_Q} {x0 x1 x2 x3 x4 x5 : Value} {a : Nat} (ht : τ.1 a = 12) : AW d 244 159 [x0, x1, x2, x3, x4, x5] (.ref a :: st) σ ρ g τ Q = AW d 244 162 [x0, x1, x2, x3, x4, x5] (.int (σ a 47) :: st) σ ρ g τ Q := aw_gi m244 d244_159 rfl rfl rfl ht
theorem d244_162 : decode cX12_choose 162 = .ok (.aload_n 0, 1) := by decide +kernel
theorem s244_162 {d : Nat} {st : List Value} {σ : am_I} {ρ : am_R} {g : am_J} {τ : am_T} {Q : am_Q} {x1 x2 x3 x4 x5 : Value} {v : Nat} : AW d 244 162 [.ref v, x1, x2, x3, x4, x5] (st) σ ρ g τ Q = AW d 244 163 [.ref v, x1, x2, x3, x4, x5] (.ref v :: st) σ ρ g τ Q := aw_lc m244 d244_162 rfl rfl rfl
theorem d244_163 : decode cX12_choose 163 = .ok (.iload_n 2, 1) := by decide +kernel
theorem s244_163 {d : Nat} {st : List Value} {σ : am_I} {ρ : am_R} {g : am_J} {τ : am_T} {Q : am_Q} {x0 x1 x3 x4 x5 : Value} {v : Int32} : AW d 244 163 [x0, x1, .int v, x3, x4, x5] (st) σ ρ g τ Q = AW d 244 164 [x0, x1, .int v, x3, x4, x5] (.int v :: st) σ ρ g τ Q := aw_lc m244 d244_163 rfl rfl rfl
theorem d244_164 : decode cX12_choose 164 = .ok (.iload_n 3, 1) := by decide +kernel
theorem s244_164 {d : Nat} {st : List Value} {σ : am_I} {ρ : am_R} {g : am_J} {τ : am_T} {Q : am_Q} {x0 x1 x2 x4 x5 : Value} {v : Int32} : AW d 244 164 [x0, x1, x2, .int v, x4, x5] (st) σ ρ g τ Q = AW d 244 165 [x0, x1, x2, .int v, x4, x5] (.int v :: st) σ ρ g τ Q := aw_lc m244 d244_164 rfl rfl rfl
theorem d244_165 : decode cX12_choose 165 = .ok (.iconst 1, 1) := by decide +kernel
theorem s244_165 {d : Nat} {st : List Value} {σ : am_I} {ρ : am_R} {g : am_J} {τ : am_T} {Q : am_Q} {x0 x1 x2 x3 x4 x5 : Value} : AW d 244 165 [x0, x1, x2, x3, x4, x5] (st) σ ρ g τ Q = AW d 244 166 [x0, x1, x2, x3, x4, x5] (.int 1 :: st) σ ρ g τ Q := aw_lc m244 d244_165 rfl rfl rfl
theorem d244_166 : decode cX12_choose 166 = .ok (.iadd, 1) := by decide +kernel
theorem s244_166 {d : Nat} {st : List Value} {σ : am_I} {ρ : am_R} {g : am_J} {τ : am_T} {Q : am_Q} {x0 x1 x2 x3 x4 x5 : Value} {v w : Int32} : AW d 244 166 [x0, x1, x2, x3, x4, x5] (.int w :: .int v :: st) σ ρ g τ Q = AW d 244 167 [x0, x1, x2, x3, x4, x5] (.int (v + w) :: st) σ ρ g τ Q := aw_lc m244 d244_166 rfl rfl rfl
theorem d244_167 : decode cX12_choose 167 = .ok (.invokevirtual 431, 3) := by decide +kernel
theorem s244_167 {d : Nat} {st : List Value} {σ : am_I} {ρ : am_R} {g : am_J} {τ : am_T} {Q : am_Q} {x0 x1 x2 x3 x4 x5 : Value} {p0 : Nat} {p1 : Int32} {p2 : Int32} (ht : τ.1 p0 = 12) (hs : st.length ≤ 4) : AW (d + 1) 244 167 [x0, x1, x2, x3, x4, x5] (.int p2 :: .int p1 :: .ref p0 :: st) σ ρ g τ Q = AW d 242 0 [.ref p0, .int p1, .int p2, am_jk, am_jk, am_jk, am_jk] [] σ ρ g τ (fun r9 σ ρ g τ => AW (d + 1) 244 170 [x0, x1, x2, x3, x4, x5] (r9.toList ++ st) σ ρ g τ Q) := aw_cv m244 d244_167 rfl m242 rfl rfl (by decide) en242 ok242 rfl ht hs
theorem d244_170 : decode cX12_choose 170 = .ok (.iastore, 1) := by decide +kernel
theorem s244_170 {d : Nat} {st : List Value} {σ : am_I} {ρ : am_R} {g : am_J} {τ : am_T} {Q : am_Q} {x0 x1 x2 x3 x4 x5 : Value} {a : Nat} {j v : Int32} (ht : τ.1 a = 15) (ha : a < am_BG) (hj : am_inb j (τ.2.1 a) = true) : AW d 244 170 [x0, x1, x2, x3, x4, x5] (.int v :: .int j :: .ref a :: st) σ ρ g τ Q = AW d 244 171 [x0, x1, x2, x3, x4, x5] (st) (am_u σ a j.toNatClampNeg v) ρ g τ Q := aw_ias m244 d244_170 rfl ht ha hj
theorem d244_171 : decode cX12_choose 171 = .ok (.aload_n 0, 1) := by decide +kernel
theorem s244_171 {d : Nat} {st : List Value} {σ : am_I} {ρ : am_R} {g : am_J} {τ : am_T} {Q : am_Q} {x1 x2 x3 x4 x5 : Value} {v : Nat} : AW d 244 171 [.ref v, x1, x2, x3, x4, x5] (st) σ ρ g τ Q = AW d 244 172 [.ref v, x1, x2, x3, x4, x5] (.ref v :: st) σ ρ g τ Q := aw_lc m244 d244_171 rfl rfl rfl
theorem d244_172 : decode cX12_choose 172 = .ok (.dup, 1) := by decide +kernel
theorem s244_172 {d : Nat} {st : List Value} {σ : am_I} {ρ : am_R} {g : am_J} {τ : am_T} {Q : am_Q} {x0 x1 x2 x3 x4 x5 : Value} {v : Int32} : AW d 244 172 [x0, x1, x2, x3, x4, x5] (.int v :: st) σ ρ g τ Q = AW d 244 173 [x0, x1, x2, x3, x4, x5] (.int v :: .int v :: st) σ ρ g τ Q := aw_lc m244 d244_172 rfl rfl rfl
theorem s244_172r {d : Nat} {st : List Value} {σ : am_I} {ρ : am_R} {g : am_J} {τ : am_T} {Q : am_Q} {x0 x1 x2 x3 x4 x5 : Value} {v : Nat} : AW d 244 172 [x0, x1, x2, x3, x4, x5] (.ref v :: st) σ ρ g τ Q = AW d 244 173 [x0, x1, x2, x3, x4, x5] (.ref v :: .ref v :: st) σ ρ g τ Q := aw_lc m244 d244_172 rfl rfl rfl
theorem d244_173 : decode cX12_choose 173 = .ok (.getfield 437, 3) := by decide +kernel
theorem s244_173 {d : Nat} {st : List Value} {σ : am_I} {ρ : am_R} {g : am_J} {τ : am_T} {Q : am_Q} {x0 x1 x2 x3 x4 x5 : Value} {a : Nat} (ht : τ.1 a = 12) : AW d 244 173 [x0, x1, x2, x3, x4, x5] (.ref a :: st) σ ρ g τ Q = AW d 244 176 [x0, x1, x2, x3, x4, x5] (.int (σ a 47) :: st) σ ρ g τ Q := aw_gi m244 d244_173 rfl rfl rfl ht
theorem d244_176 : decode cX12_choose 176 = .ok (.iconst 1, 1) := by decide +kernel
theorem s244_176 {d : Nat} {st : List Value} {σ : am_I} {ρ : am_R} {g : am_J} {τ : am_T} {Q : am_Q} {x0 x1 x2 x3 x4 x5 : Value} : AW d 244 176 [x0, x1, x2, x3, x4, x5] (st) σ ρ g τ Q = AW d 244 177 [x0, x1, x2, x3, x4, x5] (.int 1 :: st) σ ρ g τ Q := aw_lc m244 d244_176 rfl rfl rfl
theorem d244_177 : decode cX12_choose 177 = .ok (.iadd, 1) := by decide +kernel
theorem s244_177 {d : Nat} {st : List Value} {σ : am_I} {ρ : am_R} {g : am_J} {τ : am_T} {Q : am_Q} {x0 x1 x2 x3 x4 x5 : Value} {v w : Int32} : AW d 244 177 [x0, x1, x2, x3, x4, x5] (.int w :: .int v :: st) σ ρ g τ Q = AW d 244 178 [x0, x1, x2, x3, x4, x5] (.int (v + w) :: st) σ ρ g τ Q := aw_lc m244 d244_177 rfl rfl rfl
theorem d244_178 : decode cX12_choose 178 = .ok (.putfield 437, 3) := by decide +kernel
theorem s244_178 {d : Nat} {st : List Value} {σ : am_I} {ρ : am_R} {g : am_J} {τ : am_T} {Q : am_Q} {x0 x1 x2 x3 x4 x5 : Value} {a : Nat} {v : Int32} (ht : τ.1 a = 12) : AW d 244 178 [x0, x1, x2, x3, x4, x5] (.int v :: .ref a :: st) σ ρ g τ Q = AW d 244 181 [x0, x1, x2, x3, x4, x5] (st) (am_u σ a 47 v) ρ g τ Q := aw_pi m244 d244_178 rfl rfl (Or.inl rfl) rfl ht
theorem d244_181 : decode cX12_choose 181 = .ok (.iinc 3 1, 3) := by decide +kernel
theorem s244_181 {d : Nat} {st : List Value} {σ : am_I} {ρ : am_R} {g : am_J} {τ : am_T} {Q : am_Q} {x0 x1 x4 x5 : Value} {v : Int32} {u : Int32} : AW d 244 181 [x0, x1, .int u, .int v, x4, x5] (st) σ ρ g τ Q = AW d 244 184 [x0, x1, .int u, .int (v + 1), x4, x5] (st) σ ρ g τ Q := aw_lc m244 d244_181 rfl rfl rfl
theorem d244_184 : decode cX12_choose 184 = .ok (.goto (-62), 3) := by decide +kernel
theorem s244_184 {d : Nat} {st : List Value} {σ : am_I} {ρ : am_R} {g : am_J} {τ : am_T} {Q : am_Q} {x0 x1 x2 x3 x4 x5 : Value} : AW d 244 184 [x0, x1, x2, x3, x4, x5] (st) σ ρ g τ Q = AW d 244 122 [x0, x1, x2, x3, x4, x5] (st) σ ρ g τ Q := aw_lc m244 d244_184 rfl rfl rfl
theorem d244_187 : decode cX12_choose 187 = .ok (.iload_n 2, 1) := by decide +kernel
theorem s244_187 {d : Nat} {st : List Value} {σ : am_I} {ρ : am_R} {g : am_J} {τ : am_T} {Q : am_Q} {x0 x1 x3 x4 x5 : Value} {v : Int32} : AW d 244 187 [x0, x1, .int v, x3, x4, x5] (st) σ ρ g τ Q = AW d 244 188 [x0, x1, .int v, x3, x4, x5] (.int v :: st) σ ρ g τ Q := aw_lc m244 d244_187 rfl rfl rfl
theorem d244_188 : decode cX12_choose 188 = .ok (.ireturn, 1) := by decide +kernel
theorem s244_188 {d : Nat} {σ : am_I} {ρ : am_R} {g : am_J} {τ : am_T} {Q : am_Q} {x0 x1 x2 x3 x4 x5 : Value} {v : Int32} : AW d 244 188 [x0, x1, x2, x3, x4, x5] ([.int v]) σ ρ g τ Q = Q (some (.int v)) σ ρ g τ := aw_ri m244 d244_188 rfl
theorem d245_0 : decode cX12_row 0 = .ok (.iload_n 1, 1) := by decide +kernel
theorem s245_0 {d : Nat} {st : List Value} {σ : am_I} {ρ : am_R} {g : am_J} {τ : am_T} {Q : am_Q} {x0 x2 : Value} {v : Int32} : AW d 245 0 [x0, .int v, x2] (st) σ ρ g τ Q = AW d 245 1 [x0, .int v, x2] (.int v :: st) σ ρ g τ Q := aw_lc m245 d245_0 rfl rfl rfl
theorem d245_1 : decode cX12_row 1 = .ok (.iconst 0, 1) := by decide +kernel
theorem s245_1 {d : Nat} {st : List Value} {σ : am_I} {ρ : am_R} {g : am_J} {τ : am_T} {Q : am_Q} {x0 x1 x2 : Value} : AW d 245 1 [x0, x1, x2] (st) σ ρ g τ Q = AW d 245 2 [x0, x1, x2] (.int 0 :: st) σ ρ g τ Q := aw_lc m245 d245_1 rfl rfl rfl
theorem d245_2 : decode cX12_row 2 = .ok (.aload_n 0, 1) := by decide +kernel
theorem s245_2 {d : Nat} {st : List Value} {σ : am_I} {ρ : am_R} {g : am_J} {τ : am_T} {Q : am_Q} {x1 x2 : Value} {v : Nat} : AW d 245 2 [.ref v, x1, x2] (st) σ ρ g τ Q = AW d 245 3 [.ref v, x1, x2] (.ref v :: st) σ ρ g τ Q := aw_lc m245 d245_2 rfl rfl rfl
theorem d245_3 : decode cX12_row 3 = .ok (.getfield 437, 3) := by decide +kernel
theorem s245_3 {d : Nat} {st : List Value} {σ : am_I} {ρ : am_R} {g : am_J} {τ : am_T} {Q : am_Q} {x0 x1 x2 : Value} {a : Nat} (ht : τ.1 a = 12) : AW d 245 3 [x0, x1, x2] (.ref a :: st) σ ρ g τ Q = AW d 245 6 [x0, x1, x2] (.int (σ a 47) :: st) σ ρ g τ Q := aw_gi m245 d245_3 rfl rfl rfl ht
theorem d245_6 : decode cX12_row 6 = .ok (.iconst 1, 1) := by decide +kernel
theorem s245_6 {d : Nat} {st : List Value} {σ : am_I} {ρ : am_R} {g : am_J} {τ : am_T} {Q : am_Q} {x0 x1 x2 : Value} : AW d 245 6 [x0, x1, x2] (st) σ ρ g τ Q = AW d 245 7 [x0, x1, x2] (.int 1 :: st) σ ρ g τ Q := aw_lc m245 d245_6 rfl rfl rfl
theorem d245_7 : decode cX12_row 7 = .ok (.isub, 1) := by decide +kernel
theorem s245_7 {d : Nat} {st : List Value} {σ : am_I} {ρ : am_R} {g : am_J} {τ : am_T} {Q : am_Q} {x0 x1 x2 : Value} {v w : Int32} : AW d 245 7 [x0, x1, x2] (.int w :: .int v :: st) σ ρ g τ Q = AW d 245 8 [x0, x1, x2] (.int (v - w) :: st) σ ρ g τ Q := aw_lc m245 d245_7 rfl rfl rfl
theorem d245_8 : decode cX12_row 8 = .ok (.invokestatic 194, 3) := by decide +kernel
theorem s245_8 {d : Nat} {st : List Value} {σ : am_I} {ρ : am_R} {g : am_J} {τ : am_T} {Q : am_Q} {x0 x1 x2 : Value} {p0 : Int32} {p1 : Int32} {p2 : Int32} (hs : st.length ≤ 4) : AW (d + 1) 245 8 [x0, x1, x2] (.int p2 :: .int p1 :: .int p0 :: st) σ ρ g τ Q = AW d 165 0 [.int p0, .int p1, .int p2] [] σ ρ g τ (fun r9 σ ρ g τ => AW (d + 1) 245 11 [x0, x1, x2] (r9.toList ++ st) σ ρ g τ Q) := aw_cs m245 d245_8 rfl (by simp only [List.length_cons]; omega) rfl rfl en165 ok165 rfl hs
theorem d245_11 : decode cX12_row 11 = .ok (.ifCond .eq 12, 3) := by decide +kernel
theorem s245_11 {d : Nat} {st : List Value} {σ : am_I} {ρ : am_R} {g : am_J} {τ : am_T} {Q : am_Q} {x0 x1 x2 : Value} {v : Int32} : AW d 245 11 [x0, x1, x2] (.int v :: st) σ ρ g τ Q = if v = 0 then AW d 245 23 [x0, x1, x2] (st) σ ρ g τ Q else AW d 245 14 [x0, x1, x2] (st) σ ρ g τ Q := aw_br m245 d245_11 rfl rfl rfl
theorem d245_14 : decode cX12_row 14 = .ok (.iload_n 2, 1) := by decide +kernel
theorem s245_14 {d : Nat} {st : List Value} {σ : am_I} {ρ : am_R} {g : am_J} {τ : am_T} {Q : am_Q} {x0 x1 : Value} {v : Int32} : AW d 245 14 [x0, x1, .int v] (st) σ ρ g τ Q = AW d 245 15 [x0, x1, .int v] (.int v :: st) σ ρ g τ Q := aw_lc m245 d245_14 rfl rfl rfl
theorem d245_15 : decode cX12_row 15 = .ok (.iconst 0, 1) := by decide +kernel
theorem s245_15 {d : Nat} {st : List Value} {σ : am_I} {ρ : am_R} {g : am_J} {τ : am_T} {Q : am_Q} {x0 x1 x2 : Value} : AW d 245 15 [x0, x1, x2] (st) σ ρ g τ Q = AW d 245 16 [x0, x1, x2] (.int 0 :: st) σ ρ g τ Q := aw_lc m245 d245_15 rfl rfl rfl
theorem d245_16 : decode cX12_row 16 = .ok (.iconst 1, 1) := by decide +kernel
theorem s245_16 {d : Nat} {st : List Value} {σ : am_I} {ρ : am_R} {g : am_J} {τ : am_T} {Q : am_Q} {x0 x1 x2 : Value} : AW d 245 16 [x0, x1, x2] (st) σ ρ g τ Q = AW d 245 17 [x0, x1, x2] (.int 1 :: st) σ ρ g τ Q := aw_lc m245 d245_16 rfl rfl rfl
theorem d245_17 : decode cX12_row 17 = .ok (.invokestatic 194, 3) := by decide +kernel
theorem s245_17 {d : Nat} {st : List Value} {σ : am_I} {ρ : am_R} {g : am_J} {τ : am_T} {Q : am_Q} {x0 x1 x2 : Value} {p0 : Int32} {p1 : Int32} {p2 : Int32} (hs : st.length ≤ 4) : AW (d + 1) 245 17 [x0, x1, x2] (.int p2 :: .int p1 :: .int p0 :: st) σ ρ g τ Q = AW d 165 0 [.int p0, .int p1, .int p2] [] σ ρ g τ (fun r9 σ ρ g τ => AW (d + 1) 245 20 [x0, x1, x2] (r9.toList ++ st) σ ρ g τ Q) := aw_cs m245 d245_17 rfl (by simp only [List.length_cons]; omega) rfl rfl en165 ok165 rfl hs
theorem d245_20 : decode cX12_row 20 = .ok (.ifCond .ne 6, 3) := by decide +kernel
theorem s245_20 {d : Nat} {st : List Value} {σ : am_I} {ρ : am_R} {g : am_J} {τ : am_T} {Q : am_Q} {x0 x1 x2 : Value} {v : Int32} : AW d 245 20 [x0, x1, x2] (.int v :: st) σ ρ g τ Q = if ¬ v = 0 then AW d 245 26 [x0, x1, x2] (st) σ ρ g τ Q else AW d 245 23 [x0, x1, x2] (st) σ ρ g τ Q := aw_br m245 d245_20 rfl rfl rfl
theorem d245_23 : decode cX12_row 23 = .ok (.bipush (-9), 2) := by decide +kernel
theorem s245_23 {d : Nat} {st : List Value} {σ : am_I} {ρ : am_R} {g : am_J} {τ : am_T} {Q : am_Q} {x0 x1 x2 : Value} : AW d 245 23 [x0, x1, x2] (st) σ ρ g τ Q = AW d 245 25 [x0, x1, x2] (.int (-9) :: st) σ ρ g τ Q := aw_lc m245 d245_23 rfl rfl rfl
theorem d245_25 : decode cX12_row 25 = .ok (.ireturn, 1) := by decide +kernel
theorem s245_25 {d : Nat} {σ : am_I} {ρ : am_R} {g : am_J} {τ : am_T} {Q : am_Q} {x0 x1 x2 : Value} {v : Int32} : AW d 245 25 [x0, x1, x2] ([.int v]) σ ρ g τ Q = Q (some (.int v)) σ ρ g τ := aw_ri m245 d245_25 rfl
theorem d245_26 : decode cX12_row 26 = .ok (.iload_n 2, 1) := by decide +kernel
theorem s245_26 {d : Nat} {st : List Value} {σ : am_I} {ρ : am_R} {g : am_J} {τ : am_T} {Q : am_Q} {x0 x1 : Value} {v : Int32} : AW d 245 26 [x0, x1, .int v] (st) σ ρ g τ Q = AW d 245 27 [x0, x1, .int v] (.int v :: st) σ ρ g τ Q := aw_lc m245 d245_26 rfl rfl rfl
theorem d245_27 : decode cX12_row 27 = .ok (.ifCond .ne 12, 3) := by decide +kernel
theorem s245_27 {d : Nat} {st : List Value} {σ : am_I} {ρ : am_R} {g : am_J} {τ : am_T} {Q : am_Q} {x0 x1 x2 : Value} {v : Int32} : AW d 245 27 [x0, x1, x2] (.int v :: st) σ ρ g τ Q = if ¬ v = 0 then AW d 245 39 [x0, x1, x2] (st) σ ρ g τ Q else AW d 245 30 [x0, x1, x2] (st) σ ρ g τ Q := aw_br m245 d245_27 rfl rfl rfl
theorem d245_30 : decode cX12_row 30 = .ok (.aload_n 0, 1) := by decide +kernel
theorem s245_30 {d : Nat} {st : List Value} {σ : am_I} {ρ : am_R} {g : am_J} {τ : am_T} {Q : am_Q} {x1 x2 : Value} {v : Nat} : AW d 245 30 [.ref v, x1, x2] (st) σ ρ g τ Q = AW d 245 31 [.ref v, x1, x2] (.ref v :: st) σ ρ g τ Q := aw_lc m245 d245_30 rfl rfl rfl
theorem d245_31 : decode cX12_row 31 = .ok (.getfield 141, 3) := by decide +kernel
theorem s245_31 {d : Nat} {st : List Value} {σ : am_I} {ρ : am_R} {g : am_J} {τ : am_T} {Q : am_Q} {x0 x1 x2 : Value} {a : Nat} (ht : τ.1 a = 12) : AW d 245 31 [x0, x1, x2] (.ref a :: st) σ ρ g τ Q = AW d 245 34 [x0, x1, x2] (va_rf (ρ a 45) :: st) σ ρ g τ Q := aw_gr m245 d245_31 rfl rfl rfl ht
theorem d245_34 : decode cX12_row 34 = .ok (.iload_n 1, 1) := by decide +kernel
theorem s245_34 {d : Nat} {st : List Value} {σ : am_I} {ρ : am_R} {g : am_J} {τ : am_T} {Q : am_Q} {x0 x2 : Value} {v : Int32} : AW d 245 34 [x0, .int v, x2] (st) σ ρ g τ Q = AW d 245 35 [x0, .int v, x2] (.int v :: st) σ ρ g τ Q := aw_lc m245 d245_34 rfl rfl rfl
theorem d245_35 : decode cX12_row 35 = .ok (.iaload, 1) := by decide +kernel
theorem s245_35 {d : Nat} {st : List Value} {σ : am_I} {ρ : am_R} {g : am_J} {τ : am_T} {Q : am_Q} {x0 x1 x2 : Value} {a : Nat} {j : Int32} (ht : τ.1 a = 15) (hj : am_inb j (τ.2.1 a) = true) : AW d 245 35 [x0, x1, x2] (.int j :: .ref a :: st) σ ρ g τ Q = AW d 245 36 [x0, x1, x2] (.int (σ a j.toNatClampNeg) :: st) σ ρ g τ Q := aw_ial m245 d245_35 rfl ht hj
theorem d245_36 : decode cX12_row 36 = .ok (.goto 9, 3) := by decide +kernel
theorem s245_36 {d : Nat} {st : List Value} {σ : am_I} {ρ : am_R} {g : am_J} {τ : am_T} {Q : am_Q} {x0 x1 x2 : Value} : AW d 245 36 [x0, x1, x2] (st) σ ρ g τ Q = AW d 245 45 [x0, x1, x2] (st) σ ρ g τ Q := aw_lc m245 d245_36 rfl rfl rfl
theorem d245_39 : decode cX12_row 39 = .ok (.aload_n 0, 1) := by decide +kernel
theorem s245_39 {d : Nat} {st : List Value} {σ : am_I} {ρ : am_R} {g : am_J} {τ : am_T} {Q : am_Q} {x1 x2 : Value} {v : Nat} : AW d 245 39 [.ref v, x1, x2] (st) σ ρ g τ Q = AW d 245 40 [.ref v, x1, x2] (.ref v :: st) σ ρ g τ Q := aw_lc m245 d245_39 rfl rfl rfl
theorem d245_40 : decode cX12_row 40 = .ok (.getfield 144, 3) := by decide +kernel
theorem s245_40 {d : Nat} {st : List Value} {σ : am_I} {ρ : am_R} {g : am_J} {τ : am_T} {Q : am_Q} {x0 x1 x2 : Value} {a : Nat} (ht : τ.1 a = 12) : AW d 245 40 [x0, x1, x2] (.ref a :: st) σ ρ g τ Q = AW d 245 43 [x0, x1, x2] (va_rf (ρ a 46) :: st) σ ρ g τ Q := aw_gr m245 d245_40 rfl rfl rfl ht
theorem d245_43 : decode cX12_row 43 = .ok (.iload_n 1, 1) := by decide +kernel
theorem s245_43 {d : Nat} {st : List Value} {σ : am_I} {ρ : am_R} {g : am_J} {τ : am_T} {Q : am_Q} {x0 x2 : Value} {v : Int32} : AW d 245 43 [x0, .int v, x2] (st) σ ρ g τ Q = AW d 245 44 [x0, .int v, x2] (.int v :: st) σ ρ g τ Q := aw_lc m245 d245_43 rfl rfl rfl
theorem d245_44 : decode cX12_row 44 = .ok (.iaload, 1) := by decide +kernel
theorem s245_44 {d : Nat} {st : List Value} {σ : am_I} {ρ : am_R} {g : am_J} {τ : am_T} {Q : am_Q} {x0 x1 x2 : Value} {a : Nat} {j : Int32} (ht : τ.1 a = 15) (hj : am_inb j (τ.2.1 a) = true) : AW d 245 44 [x0, x1, x2] (.int j :: .ref a :: st) σ ρ g τ Q = AW d 245 45 [x0, x1, x2] (.int (σ a j.toNatClampNeg) :: st) σ ρ g τ Q := aw_ial m245 d245_44 rfl ht hj
theorem d245_45 : decode cX12_row 45 = .ok (.ireturn, 1) := by decide +kernel
theorem s245_45 {d : Nat} {σ : am_I} {ρ : am_R} {g : am_J} {τ : am_T} {Q : am_Q} {x0 x1 x2 : Value} {v : Int32} : AW d 245 45 [x0, x1, x2] ([.int v]) σ ρ g τ Q = Q (some (.int v)) σ ρ g τ := aw_ri m245 d245_45 rfl
theorem d246_0 : decode cX12_alterRow 0 = .ok (.iload_n 1, 1) := by decide +kernel
theorem s246_0 {d : Nat} {st : List Value} {σ : am_I} {ρ : am_R} {g : am_J} {τ : am_T} {Q : am_Q} {x0 x2 x3 x4 x5 : Value} {v : Int32} : AW d 246 0 [x0, .int v, x2, x3, x4, x5] (st) σ ρ g τ Q = AW d 246 1 [x0, .int v, x2, x3, x4, x5] (.int v :: st) σ ρ g τ Q := aw_lc m246 d246_0 rfl rfl rfl
theorem d246_1 : decode cX12_alterRow 1 = .ok (.iconst 0, 1) := by decide +kernel
theorem s246_1 {d : Nat} {st : List Value} {σ : am_I} {ρ : am_R} {g : am_J} {τ : am_T} {Q : am_Q} {x0 x1 x2 x3 x4 x5 : Value} : AW d 246 1 [x0, x1, x2, x3, x4, x5] (st) σ ρ g τ Q = AW d 246 2 [x0, x1, x2, x3, x4, x5] (.int 0 :: st) σ ρ g τ Q := aw_lc m246 d246_1 rfl rfl rfl
theorem d246_2 : decode cX12_alterRow 2 = .ok (.aload_n 0, 1) := by decide +kernel
theorem s246_2 {d : Nat} {st : List Value} {σ : am_I} {ρ : am_R} {g : am_J} {τ : am_T} {Q : am_Q} {x1 x2 x3 x4 x5 : Value} {v : Nat} : AW d 246 2 [.ref v, x1, x2, x3, x4, x5] (st) σ ρ g τ Q = AW d 246 3 [.ref v, x1, x2, x3, x4, x5] (.ref v :: st) σ ρ g τ Q := aw_lc m246 d246_2 rfl rfl rfl
theorem d246_3 : decode cX12_alterRow 3 = .ok (.getfield 437, 3) := by decide +kernel
theorem s246_3 {d : Nat} {st : List Value} {σ : am_I} {ρ : am_R} {g : am_J} {τ : am_T} {Q : am_Q} {x0 x1 x2 x3 x4 x5 : Value} {a : Nat} (ht : τ.1 a = 12) : AW d 246 3 [x0, x1, x2, x3, x4, x5] (.ref a :: st) σ ρ g τ Q = AW d 246 6 [x0, x1, x2, x3, x4, x5] (.int (σ a 47) :: st) σ ρ g τ Q := aw_gi m246 d246_3 rfl rfl rfl ht
theorem d246_6 : decode cX12_alterRow 6 = .ok (.iconst 1, 1) := by decide +kernel
theorem s246_6 {d : Nat} {st : List Value} {σ : am_I} {ρ : am_R} {g : am_J} {τ : am_T} {Q : am_Q} {x0 x1 x2 x3 x4 x5 : Value} : AW d 246 6 [x0, x1, x2, x3, x4, x5] (st) σ ρ g τ Q = AW d 246 7 [x0, x1, x2, x3, x4, x5] (.int 1 :: st) σ ρ g τ Q := aw_lc m246 d246_6 rfl rfl rfl
theorem d246_7 : decode cX12_alterRow 7 = .ok (.isub, 1) := by decide +kernel
theorem s246_7 {d : Nat} {st : List Value} {σ : am_I} {ρ : am_R} {g : am_J} {τ : am_T} {Q : am_Q} {x0 x1 x2 x3 x4 x5 : Value} {v w : Int32} : AW d 246 7 [x0, x1, x2, x3, x4, x5] (.int w :: .int v :: st) σ ρ g τ Q = AW d 246 8 [x0, x1, x2, x3, x4, x5] (.int (v - w) :: st) σ ρ g τ Q := aw_lc m246 d246_7 rfl rfl rfl
theorem d246_8 : decode cX12_alterRow 8 = .ok (.invokestatic 194, 3) := by decide +kernel
theorem s246_8 {d : Nat} {st : List Value} {σ : am_I} {ρ : am_R} {g : am_J} {τ : am_T} {Q : am_Q} {x0 x1 x2 x3 x4 x5 : Value} {p0 : Int32} {p1 : Int32} {p2 : Int32} (hs : st.length ≤ 4) : AW (d + 1) 246 8 [x0, x1, x2, x3, x4, x5] (.int p2 :: .int p1 :: .int p0 :: st) σ ρ g τ Q = AW d 165 0 [.int p0, .int p1, .int p2] [] σ ρ g τ (fun r9 σ ρ g τ => AW (d + 1) 246 11 [x0, x1, x2, x3, x4, x5] (r9.toList ++ st) σ ρ g τ Q) := aw_cs m246 d246_8 rfl (by simp only [List.length_cons]; omega) rfl rfl en165 ok165 rfl hs
theorem d246_11 : decode cX12_alterRow 11 = .ok (.ifCond .eq 12, 3) := by decide +kernel
theorem s246_11 {d : Nat} {st : List Value} {σ : am_I} {ρ : am_R} {g : am_J} {τ : am_T} {Q : am_Q} {x0 x1 x2 x3 x4 x5 : Value} {v : Int32} : AW d 246 11 [x0, x1, x2, x3, x4, x5] (.int v :: st) σ ρ g τ Q = if v = 0 then AW d 246 23 [x0, x1, x2, x3, x4, x5] (st) σ ρ g τ Q else AW d 246 14 [x0, x1, x2, x3, x4, x5] (st) σ ρ g τ Q := aw_br m246 d246_11 rfl rfl rfl
theorem d246_14 : decode cX12_alterRow 14 = .ok (.iload_n 2, 1) := by decide +kernel
theorem s246_14 {d : Nat} {st : List Value} {σ : am_I} {ρ : am_R} {g : am_J} {τ : am_T} {Q : am_Q} {x0 x1 x3 x4 x5 : Value} {v : Int32} : AW d 246 14 [x0, x1, .int v, x3, x4, x5] (st) σ ρ g τ Q = AW d 246 15 [x0, x1, .int v, x3, x4, x5] (.int v :: st) σ ρ g τ Q := aw_lc m246 d246_14 rfl rfl rfl
theorem d246_15 : decode cX12_alterRow 15 = .ok (.iconst 0, 1) := by decide +kernel
theorem s246_15 {d : Nat} {st : List Value} {σ : am_I} {ρ : am_R} {g : am_J} {τ : am_T} {Q : am_Q} {x0 x1 x2 x3 x4 x5 : Value} : AW d 246 15 [x0, x1, x2, x3, x4, x5] (st) σ ρ g τ Q = AW d 246 16 [x0, x1, x2, x3, x4, x5] (.int 0 :: st) σ ρ g τ Q := aw_lc m246 d246_15 rfl rfl rfl
theorem d246_16 : decode cX12_alterRow 16 = .ok (.iconst 1, 1) := by decide +kernel
theorem s246_16 {d : Nat} {st : List Value} {σ : am_I} {ρ : am_R} {g : am_J} {τ : am_T} {Q : am_Q} {x0 x1 x2 x3 x4 x5 : Value} : AW d 246 16 [x0, x1, x2, x3, x4, x5] (st) σ ρ g τ Q = AW d 246 17 [x0, x1, x2, x3, x4, x5] (.int 1 :: st) σ ρ g τ Q := aw_lc m246 d246_16 rfl rfl rfl
theorem d246_17 : decode cX12_alterRow 17 = .ok (.invokestatic 194, 3) := by decide +kernel
theorem s246_17 {d : Nat} {st : List Value} {σ : am_I} {ρ : am_R} {g : am_J} {τ : am_T} {Q : am_Q} {x0 x1 x2 x3 x4 x5 : Value} {p0 : Int32} {p1 : Int32} {p2 : Int32} (hs : st.length ≤ 4) : AW (d + 1) 246 17 [x0, x1, x2, x3, x4, x5] (.int p2 :: .int p1 :: .int p0 :: st) σ ρ g τ Q = AW d 165 0 [.int p0, .int p1, .int p2] [] σ ρ g τ (fun r9 σ ρ g τ => AW (d + 1) 246 20 [x0, x1, x2, x3, x4, x5] (r9.toList ++ st) σ ρ g τ Q) := aw_cs m246 d246_17 rfl (by simp only [List.length_cons]; omega) rfl rfl en165 ok165 rfl hs
theorem d246_20 : decode cX12_alterRow 20 = .ok (.ifCond .ne 6, 3) := by decide +kernel
theorem s246_20 {d : Nat} {st : List Value} {σ : am_I} {ρ : am_R} {g : am_J} {τ : am_T} {Q : am_Q} {x0 x1 x2 x3 x4 x5 : Value} {v : Int32} : AW d 246 20 [x0, x1, x2, x3, x4, x5] (.int v :: st) σ ρ g τ Q = if ¬ v = 0 then AW d 246 26 [x0, x1, x2, x3, x4, x5] (st) σ ρ g τ Q else AW d 246 23 [x0, x1, x2, x3, x4, x5] (st) σ ρ g τ Q := aw_br m246 d246_20 rfl rfl rfl
theorem d246_23 : decode cX12_alterRow 23 = .ok (.bipush (-9), 2) := by decide +kernel
theorem s246_23 {d : Nat} {st : List Value} {σ : am_I} {ρ : am_R} {g : am_J} {τ : am_T} {Q : am_Q} {x0 x1 x2 x3 x4 x5 : Value} : AW d 246 23 [x0, x1, x2, x3, x4, x5] (st) σ ρ g τ Q = AW d 246 25 [x0, x1, x2, x3, x4, x5] (.int (-9) :: st) σ ρ g τ Q := aw_lc m246 d246_23 rfl rfl rfl
theorem d246_25 : decode cX12_alterRow 25 = .ok (.ireturn, 1) := by decide +kernel
theorem s246_25 {d : Nat} {σ : am_I} {ρ : am_R} {g : am_J} {τ : am_T} {Q : am_Q} {x0 x1 x2 x3 x4 x5 : Value} {v : Int32} : AW d 246 25 [x0, x1, x2, x3, x4, x5] ([.int v]) σ ρ g τ Q = Q (some (.int v)) σ ρ g τ := aw_ri m246 d246_25 rfl
theorem d246_26 : decode cX12_alterRow 26 = .ok (.iload_n 2, 1) := by decide +kernel
theorem s246_26 {d : Nat} {st : List Value} {σ : am_I} {ρ : am_R} {g : am_J} {τ : am_T} {Q : am_Q} {x0 x1 x3 x4 x5 : Value} {v : Int32} : AW d 246 26 [x0, x1, .int v, x3, x4, x5] (st) σ ρ g τ Q = AW d 246 27 [x0, x1, .int v, x3, x4, x5] (.int v :: st) σ ρ g τ Q := aw_lc m246 d246_26 rfl rfl rfl
theorem d246_27 : decode cX12_alterRow 27 = .ok (.ifCond .ne 10, 3) := by decide +kernel
theorem s246_27 {d : Nat} {st : List Value} {σ : am_I} {ρ : am_R} {g : am_J} {τ : am_T} {Q : am_Q} {x0 x1 x2 x3 x4 x5 : Value} {v : Int32} : AW d 246 27 [x0, x1, x2, x3, x4, x5] (.int v :: st) σ ρ g τ Q = if ¬ v = 0 then AW d 246 37 [x0, x1, x2, x3, x4, x5] (st) σ ρ g τ Q else AW d 246 30 [x0, x1, x2, x3, x4, x5] (st) σ ρ g τ Q := aw_br m246 d246_27 rfl rfl rfl
theorem d246_30 : decode cX12_alterRow 30 = .ok (.aload_n 0, 1) := by decide +kernel
theorem s246_30 {d : Nat} {st : List Value} {σ : am_I} {ρ : am_R} {g : am_J} {τ : am_T} {Q : am_Q} {x1 x2 x3 x4 x5 : Value} {v : Nat} : AW d 246 30 [.ref v, x1, x2, x3, x4, x5] (st) σ ρ g τ Q = AW d 246 31 [.ref v, x1, x2, x3, x4, x5] (.ref v :: st) σ ρ g τ Q := aw_lc m246 d246_30 rfl rfl rfl
theorem d246_31 : decode cX12_alterRow 31 = .ok (.getfield 141, 3) := by decide +kernel
theorem s246_31 {d : Nat} {st : List Value} {σ : am_I} {ρ : am_R} {g : am_J} {τ : am_T} {Q : am_Q} {x0 x1 x2 x3 x4 x5 : Value} {a : Nat} (ht : τ.1 a = 12) : AW d 246 31 [x0, x1, x2, x3, x4, x5] (.ref a :: st) σ ρ g τ Q = AW d 246 34 [x0, x1, x2, x3, x4, x5] (va_rf (ρ a 45) :: st) σ ρ g τ Q := aw_gr m246 d246_31 rfl rfl rfl ht
theorem d246_34 : decode cX12_alterRow 34 = .ok (.goto 7, 3) := by decide +kernel
theorem s246_34 {d : Nat} {st : List Value} {σ : am_I} {ρ : am_R} {g : am_J} {τ : am_T} {Q : am_Q} {x0 x1 x2 x3 x4 x5 : Value} : AW d 246 34 [x0, x1, x2, x3, x4, x5] (st) σ ρ g τ Q = AW d 246 41 [x0, x1, x2, x3, x4, x5] (st) σ ρ g τ Q := aw_lc m246 d246_34 rfl rfl rfl
theorem d246_37 : decode cX12_alterRow 37 = .ok (.aload_n 0, 1) := by decide +kernel
theorem s246_37 {d : Nat} {st : List Value} {σ : am_I} {ρ : am_R} {g : am_J} {τ : am_T} {Q : am_Q} {x1 x2 x3 x4 x5 : Value} {v : Nat} : AW d 246 37 [.ref v, x1, x2, x3, x4, x5] (st) σ ρ g τ Q = AW d 246 38 [.ref v, x1, x2, x3, x4, x5] (.ref v :: st) σ ρ g τ Q := aw_lc m246 d246_37 rfl rfl rfl
theorem d246_38 : decode cX12_alterRow 38 = .ok (.getfield 144, 3) := by decide +kernel
theorem s246_38 {d : Nat} {st : List Value} {σ : am_I} {ρ : am_R} {g : am_J} {τ : am_T} {Q : am_Q} {x0 x1 x2 x3 x4 x5 : Value} {a : Nat} (ht : τ.1 a = 12) : AW d 246 38 [x0, x1, x2, x3, x4, x5] (.ref a :: st) σ ρ g τ Q = AW d 246 41 [x0, x1, x2, x3, x4, x5] (va_rf (ρ a 46) :: st) σ ρ g τ Q := aw_gr m246 d246_38 rfl rfl rfl ht
theorem d246_41 : decode cX12_alterRow 41 = .ok (.astore 4, 2) := by decide +kernel
theorem s246_41 {d : Nat} {st : List Value} {σ : am_I} {ρ : am_R} {g : am_J} {τ : am_T} {Q : am_Q} {x0 x1 x2 x4 x5 : Value} {v : Nat} {u : Int32} : AW d 246 41 [x0, x1, x2, .int u, x4, x5] (.ref v :: st) σ ρ g τ Q = AW d 246 43 [x0, x1, x2, .int u, .ref v, x5] (st) σ ρ g τ Q := aw_lc m246 d246_41 rfl rfl rfl
theorem d246_43 : decode cX12_alterRow 43 = .ok (.aload 4, 2) := by decide +kernel
theorem s246_43 {d : Nat} {st : List Value} {σ : am_I} {ρ : am_R} {g : am_J} {τ : am_T} {Q : am_Q} {x0 x1 x2 x3 x5 : Value} {v : Nat} : AW d 246 43 [x0, x1, x2, x3, .ref v, x5] (st) σ ρ g τ Q = AW d 246 45 [x0, x1, x2, x3, .ref v, x5] (.ref v :: st) σ ρ g τ Q := aw_lc m246 d246_43 rfl rfl rfl
theorem d246_45 : decode cX12_alterRow 45 = .ok (.iload_n 1, 1) := by decide +kernel
theorem s246_45 {d : Nat} {st : List Value} {σ : am_I} {ρ : am_R} {g : am_J} {τ : am_T} {Q : am_Q} {x0 x2 x3 x4 x5 : Value} {v : Int32} : AW d 246 45 [x0, .int v, x2, x3, x4, x5] (st) σ ρ g τ Q = AW d 246 46 [x0, .int v, x2, x3, x4, x5] (.int v :: st) σ ρ g τ Q := aw_lc m246 d246_45 rfl rfl rfl
theorem d246_46 : decode cX12_alterRow 46 = .ok (.iaload, 1) := by decide +kernel
theorem s246_46 {d : Nat} {st : List Value} {σ : am_I} {ρ : am_R} {g : am_J} {τ : am_T} {Q : am_Q} {x0 x1 x2 x3 x4 x5 : Value} {a : Nat} {j : Int32} (ht : τ.1 a = 15) (hj : am_inb j (τ.2.1 a) = true) : AW d 246 46 [x0, x1, x2, x3, x4, x5] (.int j :: .ref a :: st) σ ρ g τ Q = AW d 246 47 [x0, x1, x2, x3, x4, x5] (.int (σ a j.toNatClampNeg) :: st) σ ρ g τ Q := aw_ial m246 d246_46 rfl ht hj
theorem d246_47 : decode cX12_alterRow 47 = .ok (.istore 5, 2) := by decide +kernel
theorem s246_47r {d : Nat} {st : List Value} {σ : am_I} {ρ : am_R} {g : am_J} {τ : am_T} {Q : am_Q} {x0 x1 x2 x3 x5 : Value} {v : Int32} {u : Nat} : AW d 246 47 [x0, x1, x2, x3, .ref u, x5] (.int v :: st) σ ρ g τ Q = AW d 246 49 [x0, x1, x2, x3, .ref u, .int v] (st) σ ρ g τ Q := aw_lc m246 d246_47 rfl rfl rfl
theorem d246_49 : decode cX12_alterRow 49 = .ok (.aload 4, 2) := by decide +kernel
theorem s246_49 {d : Nat} {st : List Value} {σ : am_I} {ρ : am_R} {g : am_J} {τ : am_T} {Q : am_Q} {x0 x1 x2 x3 x5 : Value} {v : Nat} : AW d 246 49 [x0, x1, x2, x3, .ref v, x5] (st) σ ρ g τ Q = AW d 246 51 [x0, x1, x2, x3, .ref v, x5] (.ref v :: st) σ ρ g τ Q := aw_lc m246 d246_49 rfl rfl rfl
theorem d246_51 : decode cX12_alterRow 51 = .ok (.iload_n 1, 1) := by decide +kernel
theorem s246_51 {d : Nat} {st : List Value} {σ : am_I} {ρ : am_R} {g : am_J} {τ : am_T} {Q : am_Q} {x0 x2 x3 x4 x5 : Value} {v : Int32} : AW d 246 51 [x0, .int v, x2, x3, x4, x5] (st) σ ρ g τ Q = AW d 246 52 [x0, .int v, x2, x3, x4, x5] (.int v :: st) σ ρ g τ Q := aw_lc m246 d246_51 rfl rfl rfl
theorem d246_52 : decode cX12_alterRow 52 = .ok (.iload_n 3, 1) := by decide +kernel
theorem s246_52 {d : Nat} {st : List Value} {σ : am_I} {ρ : am_R} {g : am_J} {τ : am_T} {Q : am_Q} {x0 x1 x2 x4 x5 : Value} {v : Int32} : AW d 246 52 [x0, x1, x2, .int v, x4, x5] (st) σ ρ g τ Q = AW d 246 53 [x0, x1, x2, .int v, x4, x5] (.int v :: st) σ ρ g τ Q := aw_lc m246 d246_52 rfl rfl rfl
theorem d246_53 : decode cX12_alterRow 53 = .ok (.iastore, 1) := by decide +kernel
theorem s246_53 {d : Nat} {st : List Value} {σ : am_I} {ρ : am_R} {g : am_J} {τ : am_T} {Q : am_Q} {x0 x1 x2 x3 x4 x5 : Value} {a : Nat} {j v : Int32} (ht : τ.1 a = 15) (ha : a < am_BG) (hj : am_inb j (τ.2.1 a) = true) : AW d 246 53 [x0, x1, x2, x3, x4, x5] (.int v :: .int j :: .ref a :: st) σ ρ g τ Q = AW d 246 54 [x0, x1, x2, x3, x4, x5] (st) (am_u σ a j.toNatClampNeg v) ρ g τ Q := aw_ias m246 d246_53 rfl ht ha hj
theorem d246_54 : decode cX12_alterRow 54 = .ok (.iload 5, 2) := by decide +kernel
theorem s246_54 {d : Nat} {st : List Value} {σ : am_I} {ρ : am_R} {g : am_J} {τ : am_T} {Q : am_Q} {x0 x1 x2 x3 x4 : Value} {v : Int32} : AW d 246 54 [x0, x1, x2, x3, x4, .int v] (st) σ ρ g τ Q = AW d 246 56 [x0, x1, x2, x3, x4, .int v] (.int v :: st) σ ρ g τ Q := aw_lc m246 d246_54 rfl rfl rfl
theorem d246_56 : decode cX12_alterRow 56 = .ok (.ireturn, 1) := by decide +kernel
theorem s246_56 {d : Nat} {σ : am_I} {ρ : am_R} {g : am_J} {τ : am_T} {Q : am_Q} {x0 x1 x2 x3 x4 x5 : Value} {v : Int32} : AW d 246 56 [x0, x1, x2, x3, x4, x5] ([.int v]) σ ρ g τ Q = Q (some (.int v)) σ ρ g τ := aw_ri m246 d246_56 rfl
theorem d247_0 : decode cX12_dropRow 0 = .ok (.aload_n 0, 1) := by decide +kernel
theorem s247_0 {d : Nat} {st : List Value} {σ : am_I} {ρ : am_R} {g : am_J} {τ : am_T} {Q : am_Q} {v : Nat} : AW d 247 0 [.ref v] (st) σ ρ g τ Q = AW d 247 1 [.ref v] (.ref v :: st) σ ρ g τ Q := aw_lc m247 d247_0 rfl rfl rfl
theorem d247_1 : decode cX12_dropRow 1 = .ok (.getfield 437, 3) := by decide +kernel
theorem s247_1 {d : Nat} {st : List Value} {σ : am_I} {ρ : am_R} {g : am_J} {τ : am_T} {Q : am_Q} {x0 : Value} {a : Nat} (ht : τ.1 a = 12) : AW d 247 1 [x0] (.ref a :: st) σ ρ g τ Q = AW d 247 4 [x0] (.int (σ a 47) :: st) σ ρ g τ Q := aw_gi m247 d247_1 rfl rfl rfl ht
theorem d247_4 : decode cX12_dropRow 4 = .ok (.ifCond .ne 6, 3) := by decide +kernel
theorem s247_4 {d : Nat} {st : List Value} {σ : am_I} {ρ : am_R} {g : am_J} {τ : am_T} {Q : am_Q} {x0 : Value} {v : Int32} : AW d 247 4 [x0] (.int v :: st) σ ρ g τ Q = if ¬ v = 0 then AW d 247 10 [x0] (st) σ ρ g τ Q else AW d 247 7 [x0] (st) σ ρ g τ Q := aw_br m247 d247_4 rfl rfl rfl
theorem d247_7 : decode cX12_dropRow 7 = .ok (.bipush (-3), 2) := by decide +kernel
theorem s247_7 {d : Nat} {st : List Value} {σ : am_I} {ρ : am_R} {g : am_J} {τ : am_T} {Q : am_Q} {x0 : Value} : AW d 247 7 [x0] (st) σ ρ g τ Q = AW d 247 9 [x0] (.int (-3) :: st) σ ρ g τ Q := aw_lc m247 d247_7 rfl rfl rfl
theorem d247_9 : decode cX12_dropRow 9 = .ok (.ireturn, 1) := by decide +kernel
theorem s247_9 {d : Nat} {σ : am_I} {ρ : am_R} {g : am_J} {τ : am_T} {Q : am_Q} {x0 : Value} {v : Int32} : AW d 247 9 [x0] ([.int v]) σ ρ g τ Q = Q (some (.int v)) σ ρ g τ := aw_ri m247 d247_9 rfl
theorem d247_10 : decode cX12_dropRow 10 = .ok (.aload_n 0, 1) := by decide +kernel
theorem s247_10 {d : Nat} {st : List Value} {σ : am_I} {ρ : am_R} {g : am_J} {τ : am_T} {Q : am_Q} {v : Nat} : AW d 247 10 [.ref v] (st) σ ρ g τ Q = AW d 247 11 [.ref v] (.ref v :: st) σ ρ g τ Q := aw_lc m247 d247_10 rfl rfl rfl
theorem d247_11 : decode cX12_dropRow 11 = .ok (.dup, 1) := by decide +kernel
theorem s247_11 {d : Nat} {st : List Value} {σ : am_I} {ρ : am_R} {g : am_J} {τ : am_T} {Q : am_Q} {x0 : Value} {v : Int32} : AW d 247 11 [x0] (.int v :: st) σ ρ g τ Q = AW d 247 12 [x0] (.int v :: .int v :: st) σ ρ g τ Q := aw_lc m247 d247_11 rfl rfl rfl
theorem s247_11r {d : Nat} {st : List Value} {σ : am_I} {ρ : am_R} {g : am_J} {τ : am_T} {Q : am_Q} {x0 : Value} {v : Nat} : AW d 247 11 [x0] (.ref v :: st) σ ρ g τ Q = AW d 247 12 [x0] (.ref v :: .ref v :: st) σ ρ g τ Q := aw_lc m247 d247_11 rfl rfl rfl
theorem d247_12 : decode cX12_dropRow 12 = .ok (.getfield 437, 3) := by decide +kernel
theorem s247_12 {d : Nat} {st : List Value} {σ : am_I} {ρ : am_R} {g : am_J} {τ : am_T} {Q : am_Q} {x0 : Value} {a : Nat} (ht : τ.1 a = 12) : AW d 247 12 [x0] (.ref a :: st) σ ρ g τ Q = AW d 247 15 [x0] (.int (σ a 47) :: st) σ ρ g τ Q := aw_gi m247 d247_12 rfl rfl rfl ht
theorem d247_15 : decode cX12_dropRow 15 = .ok (.iconst 1, 1) := by decide +kernel
theorem s247_15 {d : Nat} {st : List Value} {σ : am_I} {ρ : am_R} {g : am_J} {τ : am_T} {Q : am_Q} {x0 : Value} : AW d 247 15 [x0] (st) σ ρ g τ Q = AW d 247 16 [x0] (.int 1 :: st) σ ρ g τ Q := aw_lc m247 d247_15 rfl rfl rfl
theorem d247_16 : decode cX12_dropRow 16 = .ok (.isub, 1) := by decide +kernel
theorem s247_16 {d : Nat} {st : List Value} {σ : am_I} {ρ : am_R} {g : am_J} {τ : am_T} {Q : am_Q} {x0 : Value} {v w : Int32} : AW d 247 16 [x0] (.int w :: .int v :: st) σ ρ g τ Q = AW d 247 17 [x0] (.int (v - w) :: st) σ ρ g τ Q := aw_lc m247 d247_16 rfl rfl rfl
theorem d247_17 : decode cX12_dropRow 17 = .ok (.putfield 437, 3) := by decide +kernel
theorem s247_17 {d : Nat} {st : List Value} {σ : am_I} {ρ : am_R} {g : am_J} {τ : am_T} {Q : am_Q} {x0 : Value} {a : Nat} {v : Int32} (ht : τ.1 a = 12) : AW d 247 17 [x0] (.int v :: .ref a :: st) σ ρ g τ Q = AW d 247 20 [x0] (st) (am_u σ a 47 v) ρ g τ Q := aw_pi m247 d247_17 rfl rfl (Or.inl rfl) rfl ht
theorem d247_20 : decode cX12_dropRow 20 = .ok (.aload_n 0, 1) := by decide +kernel
theorem s247_20 {d : Nat} {st : List Value} {σ : am_I} {ρ : am_R} {g : am_J} {τ : am_T} {Q : am_Q} {v : Nat} : AW d 247 20 [.ref v] (st) σ ρ g τ Q = AW d 247 21 [.ref v] (.ref v :: st) σ ρ g τ Q := aw_lc m247 d247_20 rfl rfl rfl
theorem d247_21 : decode cX12_dropRow 21 = .ok (.getfield 437, 3) := by decide +kernel
theorem s247_21 {d : Nat} {st : List Value} {σ : am_I} {ρ : am_R} {g : am_J} {τ : am_T} {Q : am_Q} {x0 : Value} {a : Nat} (ht : τ.1 a = 12) : AW d 247 21 [x0] (.ref a :: st) σ ρ g τ Q = AW d 247 24 [x0] (.int (σ a 47) :: st) σ ρ g τ Q := aw_gi m247 d247_21 rfl rfl rfl ht
theorem d247_24 : decode cX12_dropRow 24 = .ok (.ireturn, 1) := by decide +kernel
theorem s247_24 {d : Nat} {σ : am_I} {ρ : am_R} {g : am_J} {τ : am_T} {Q : am_Q} {x0 : Value} {v : Int32} : AW d 247 24 [x0] ([.int v]) σ ρ g τ Q = Q (some (.int v)) σ ρ g τ := aw_ri m247 d247_24 rfl
theorem d248_0 : decode cX12_judge 0 = .ok (.iload_n 1, 1) := by decide +kernel
theorem s248_0 {d : Nat} {st : List Value} {σ : am_I} {ρ : am_R} {g : am_J} {τ : am_T} {Q : am_Q} {x0 x2 x3 x4 x5 : Value} {v : Int32} : AW d 248 0 [x0, .int v, x2, x3, x4, x5] (st) σ ρ g τ Q = AW d 248 1 [x0, .int v, x2, x3, x4, x5] (.int v :: st) σ ρ g τ Q := aw_lc m248 d248_0 rfl rfl rfl
theorem d248_1 : decode cX12_judge 1 = .ok (.iconst 0, 1) := by decide +kernel
theorem s248_1 {d : Nat} {st : List Value} {σ : am_I} {ρ : am_R} {g : am_J} {τ : am_T} {Q : am_Q} {x0 x1 x2 x3 x4 x5 : Value} : AW d 248 1 [x0, x1, x2, x3, x4, x5] (st) σ ρ g τ Q = AW d 248 2 [x0, x1, x2, x3, x4, x5] (.int 0 :: st) σ ρ g τ Q := aw_lc m248 d248_1 rfl rfl rfl
theorem d248_2 : decode cX12_judge 2 = .ok (.sipush 9999, 3) := by decide +kernel
theorem s248_2 {d : Nat} {st : List Value} {σ : am_I} {ρ : am_R} {g : am_J} {τ : am_T} {Q : am_Q} {x0 x1 x2 x3 x4 x5 : Value} : AW d 248 2 [x0, x1, x2, x3, x4, x5] (st) σ ρ g τ Q = AW d 248 5 [x0, x1, x2, x3, x4, x5] (.int 9999 :: st) σ ρ g τ Q := aw_lc m248 d248_2 rfl rfl rfl
theorem d248_5 : decode cX12_judge 5 = .ok (.invokestatic 194, 3) := by decide +kernel
theorem s248_5 {d : Nat} {st : List Value} {σ : am_I} {ρ : am_R} {g : am_J} {τ : am_T} {Q : am_Q} {x0 x1 x2 x3 x4 x5 : Value} {p0 : Int32} {p1 : Int32} {p2 : Int32} (hs : st.length ≤ 4) : AW (d + 1) 248 5 [x0, x1, x2, x3, x4, x5] (.int p2 :: .int p1 :: .int p0 :: st) σ ρ g τ Q = AW d 165 0 [.int p0, .int p1, .int p2] [] σ ρ g τ (fun r9 σ ρ g τ => AW (d + 1) 248 8 [x0, x1, x2, x3, x4, x5] (r9.toList ++ st) σ ρ g τ Q) := aw_cs m248 d248_5 rfl (by simp only [List.length_cons]; omega) rfl rfl en165 ok165 rfl hs
theorem d248_8 : decode cX12_judge 8 = .ok (.ifCond .ne 5, 3) := by decide +kernel
theorem s248_8 {d : Nat} {st : List Value} {σ : am_I} {ρ : am_R} {g : am_J} {τ : am_T} {Q : am_Q} {x0 x1 x2 x3 x4 x5 : Value} {v : Int32} : AW d 248 8 [x0, x1, x2, x3, x4, x5] (.int v :: st) σ ρ g τ Q = if ¬ v = 0 then AW d 248 13 [x0, x1, x2, x3, x4, x5] (st) σ ρ g τ Q else AW d 248 11 [x0, x1, x2, x3, x4, x5] (st) σ ρ g τ Q := aw_br m248 d248_8 rfl rfl rfl
theorem d248_11 : decode cX12_judge 11 = .ok (.iconst (-1), 1) := by decide +kernel
theorem s248_11 {d : Nat} {st : List Value} {σ : am_I} {ρ : am_R} {g : am_J} {τ : am_T} {Q : am_Q} {x0 x1 x2 x3 x4 x5 : Value} : AW d 248 11 [x0, x1, x2, x3, x4, x5] (st) σ ρ g τ Q = AW d 248 12 [x0, x1, x2, x3, x4, x5] (.int (-1) :: st) σ ρ g τ Q := aw_lc m248 d248_11 rfl rfl rfl
theorem d248_12 : decode cX12_judge 12 = .ok (.ireturn, 1) := by decide +kernel
theorem s248_12 {d : Nat} {σ : am_I} {ρ : am_R} {g : am_J} {τ : am_T} {Q : am_Q} {x0 x1 x2 x3 x4 x5 : Value} {v : Int32} : AW d 248 12 [x0, x1, x2, x3, x4, x5] ([.int v]) σ ρ g τ Q = Q (some (.int v)) σ ρ g τ := aw_ri m248 d248_12 rfl
theorem d248_13 : decode cX12_judge 13 = .ok (.iconst 0, 1) := by decide +kernel
theorem s248_13 {d : Nat} {st : List Value} {σ : am_I} {ρ : am_R} {g : am_J} {τ : am_T} {Q : am_Q} {x0 x1 x2 x3 x4 x5 : Value} : AW d 248 13 [x0, x1, x2, x3, x4, x5] (st) σ ρ g τ Q = AW d 248 14 [x0, x1, x2, x3, x4, x5] (.int 0 :: st) σ ρ g τ Q := aw_lc m248 d248_13 rfl rfl rfl
theorem d248_14 : decode cX12_judge 14 = .ok (.istore_n 2, 1) := by decide +kernel
theorem s248_14 {d : Nat} {st : List Value} {σ : am_I} {ρ : am_R} {g : am_J} {τ : am_T} {Q : am_Q} {x0 x2 x3 x4 x5 : Value} {v : Int32} {u : Int32} : AW d 248 14 [x0, .int u, x2, x3, x4, x5] (.int v :: st) σ ρ g τ Q = AW d 248 15 [x0, .int u, .int v, x3, x4, x5] (st) σ ρ g τ Q := aw_lc m248 d248_14 rfl rfl rfl
theorem d248_15 : decode cX12_judge 15 = .ok (.iconst (-1), 1) := by decide +kernel
theorem s248_15 {d : Nat} {st : List Value} {σ : am_I} {ρ : am_R} {g : am_J} {τ : am_T} {Q : am_Q} {x0 x1 x2 x3 x4 x5 : Value} : AW d 248 15 [x0, x1, x2, x3, x4, x5] (st) σ ρ g τ Q = AW d 248 16 [x0, x1, x2, x3, x4, x5] (.int (-1) :: st) σ ρ g τ Q := aw_lc m248 d248_15 rfl rfl rfl
theorem d248_16 : decode cX12_judge 16 = .ok (.istore_n 3, 1) := by decide +kernel
theorem s248_16 {d : Nat} {st : List Value} {σ : am_I} {ρ : am_R} {g : am_J} {τ : am_T} {Q : am_Q} {x0 x1 x3 x4 x5 : Value} {v : Int32} {u : Int32} : AW d 248 16 [x0, x1, .int u, x3, x4, x5] (.int v :: st) σ ρ g τ Q = AW d 248 17 [x0, x1, .int u, .int v, x4, x5] (st) σ ρ g τ Q := aw_lc m248 d248_16 rfl rfl rfl
theorem d248_17 : decode cX12_judge 17 = .ok (.iconst 0, 1) := by decide +kernel
theorem s248_17 {d : Nat} {st : List Value} {σ : am_I} {ρ : am_R} {g : am_J} {τ : am_T} {Q : am_Q} {x0 x1 x2 x3 x4 x5 : Value} : AW d 248 17 [x0, x1, x2, x3, x4, x5] (st) σ ρ g τ Q = AW d 248 18 [x0, x1, x2, x3, x4, x5] (.int 0 :: st) σ ρ g τ Q := aw_lc m248 d248_17 rfl rfl rfl
theorem d248_18 : decode cX12_judge 18 = .ok (.istore 4, 2) := by decide +kernel
theorem s248_18 {d : Nat} {st : List Value} {σ : am_I} {ρ : am_R} {g : am_J} {τ : am_T} {Q : am_Q} {x0 x1 x2 x4 x5 : Value} {v : Int32} {u : Int32} : AW d 248 18 [x0, x1, x2, .int u, x4, x5] (.int v :: st) σ ρ g τ Q = AW d 248 20 [x0, x1, x2, .int u, .int v, x5] (st) σ ρ g τ Q := aw_lc m248 d248_18 rfl rfl rfl
theorem d248_20 : decode cX12_judge 20 = .ok (.iload 4, 2) := by decide +kernel
theorem s248_20 {d : Nat} {st : List Value} {σ : am_I} {ρ : am_R} {g : am_J} {τ : am_T} {Q : am_Q} {x0 x1 x2 x3 x5 : Value} {v : Int32} : AW d 248 20 [x0, x1, x2, x3, .int v, x5] (st) σ ρ g τ Q = AW d 248 22 [x0, x1, x2, x3, .int v, x5] (.int v :: st) σ ρ g τ Q := aw_lc m248 d248_20 rfl rfl rfl
theorem d248_22 : decode cX12_judge 22 = .ok (.aload_n 0, 1) := by decide +kernel
theorem s248_22 {d : Nat} {st : List Value} {σ : am_I} {ρ : am_R} {g : am_J} {τ : am_T} {Q : am_Q} {x1 x2 x3 x4 x5 : Value} {v : Nat} : AW d 248 22 [.ref v, x1, x2, x3, x4, x5] (st) σ ρ g τ Q = AW d 248 23 [.ref v, x1, x2, x3, x4, x5] (.ref v :: st) σ ρ g τ Q := aw_lc m248 d248_22 rfl rfl rfl
theorem d248_23 : decode cX12_judge 23 = .ok (.getfield 437, 3) := by decide +kernel
theorem s248_23 {d : Nat} {st : List Value} {σ : am_I} {ρ : am_R} {g : am_J} {τ : am_T} {Q : am_Q} {x0 x1 x2 x3 x4 x5 : Value} {a : Nat} (ht : τ.1 a = 12) : AW d 248 23 [x0, x1, x2, x3, x4, x5] (.ref a :: st) σ ρ g τ Q = AW d 248 26 [x0, x1, x2, x3, x4, x5] (.int (σ a 47) :: st) σ ρ g τ Q := aw_gi m248 d248_23 rfl rfl rfl ht
theorem d248_26 : decode cX12_judge 26 = .ok (.if_icmp .ge 75, 3) := by decide +kernel
theorem s248_26 {d : Nat} {st : List Value} {σ : am_I} {ρ : am_R} {g : am_J} {τ : am_T} {Q : am_Q} {x0 x1 x2 x3 x4 x5 : Value} {v w : Int32} : AW d 248 26 [x0, x1, x2, x3, x4, x5] (.int w :: .int v :: st) σ ρ g τ Q = if w ≤ v then AW d 248 101 [x0, x1, x2, x3, x4, x5] (st) σ ρ g τ Q else AW d 248 29 [x0, x1, x2, x3, x4, x5] (st) σ ρ g τ Q := aw_br m248 d248_26 rfl rfl rfl
theorem d248_29 : decode cX12_judge 29 = .ok (.aload_n 0, 1) := by decide +kernel
theorem s248_29 {d : Nat} {st : List Value} {σ : am_I} {ρ : am_R} {g : am_J} {τ : am_T} {Q : am_Q} {x1 x2 x3 x4 x5 : Value} {v : Nat} : AW d 248 29 [.ref v, x1, x2, x3, x4, x5] (st) σ ρ g τ Q = AW d 248 30 [.ref v, x1, x2, x3, x4, x5] (.ref v :: st) σ ρ g τ Q := aw_lc m248 d248_29 rfl rfl rfl
theorem d248_30 : decode cX12_judge 30 = .ok (.getfield 141, 3) := by decide +kernel
theorem s248_30 {d : Nat} {st : List Value} {σ : am_I} {ρ : am_R} {g : am_J} {τ : am_T} {Q : am_Q} {x0 x1 x2 x3 x4 x5 : Value} {a : Nat} (ht : τ.1 a = 12) : AW d 248 30 [x0, x1, x2, x3, x4, x5] (.ref a :: st) σ ρ g τ Q = AW d 248 33 [x0, x1, x2, x3, x4, x5] (va_rf (ρ a 45) :: st) σ ρ g τ Q := aw_gr m248 d248_30 rfl rfl rfl ht
theorem d248_33 : decode cX12_judge 33 = .ok (.iload 4, 2) := by decide +kernel
theorem s248_33 {d : Nat} {st : List Value} {σ : am_I} {ρ : am_R} {g : am_J} {τ : am_T} {Q : am_Q} {x0 x1 x2 x3 x5 : Value} {v : Int32} : AW d 248 33 [x0, x1, x2, x3, .int v, x5] (st) σ ρ g τ Q = AW d 248 35 [x0, x1, x2, x3, .int v, x5] (.int v :: st) σ ρ g τ Q := aw_lc m248 d248_33 rfl rfl rfl
theorem d248_35 : decode cX12_judge 35 = .ok (.iaload, 1) := by decide +kernel
theorem s248_35 {d : Nat} {st : List Value} {σ : am_I} {ρ : am_R} {g : am_J} {τ : am_T} {Q : am_Q} {x0 x1 x2 x3 x4 x5 : Value} {a : Nat} {j : Int32} (ht : τ.1 a = 15) (hj : am_inb j (τ.2.1 a) = true) : AW d 248 35 [x0, x1, x2, x3, x4, x5] (.int j :: .ref a :: st) σ ρ g τ Q = AW d 248 36 [x0, x1, x2, x3, x4, x5] (.int (σ a j.toNatClampNeg) :: st) σ ρ g τ Q := aw_ial m248 d248_35 rfl ht hj
theorem d248_36 : decode cX12_judge 36 = .ok (.istore 5, 2) := by decide +kernel
theorem s248_36 {d : Nat} {st : List Value} {σ : am_I} {ρ : am_R} {g : am_J} {τ : am_T} {Q : am_Q} {x0 x1 x2 x3 x5 : Value} {v : Int32} {u : Int32} : AW d 248 36 [x0, x1, x2, x3, .int u, x5] (.int v :: st) σ ρ g τ Q = AW d 248 38 [x0, x1, x2, x3, .int u, .int v] (st) σ ρ g τ Q := aw_lc m248 d248_36 rfl rfl rfl
theorem d248_38 : decode cX12_judge 38 = .ok (.iload 5, 2) := by decide +kernel
theorem s248_38 {d : Nat} {st : List Value} {σ : am_I} {ρ : am_R} {g : am_J} {τ : am_T} {Q : am_Q} {x0 x1 x2 x3 x4 : Value} {v : Int32} : AW d 248 38 [x0, x1, x2, x3, x4, .int v] (st) σ ρ g τ Q = AW d 248 40 [x0, x1, x2, x3, x4, .int v] (.int v :: st) σ ρ g τ Q := aw_lc m248 d248_38 rfl rfl rfl
theorem d248_40 : decode cX12_judge 40 = .ok (.iload_n 3, 1) := by decide +kernel
theorem s248_40 {d : Nat} {st : List Value} {σ : am_I} {ρ : am_R} {g : am_J} {τ : am_T} {Q : am_Q} {x0 x1 x2 x4 x5 : Value} {v : Int32} : AW d 248 40 [x0, x1, x2, .int v, x4, x5] (st) σ ρ g τ Q = AW d 248 41 [x0, x1, x2, .int v, x4, x5] (.int v :: st) σ ρ g τ Q := aw_lc m248 d248_40 rfl rfl rfl
theorem d248_41 : decode cX12_judge 41 = .ok (.if_icmp .le 15, 3) := by decide +kernel
theorem s248_41 {d : Nat} {st : List Value} {σ : am_I} {ρ : am_R} {g : am_J} {τ : am_T} {Q : am_Q} {x0 x1 x2 x3 x4 x5 : Value} {v w : Int32} : AW d 248 41 [x0, x1, x2, x3, x4, x5] (.int w :: .int v :: st) σ ρ g τ Q = if v ≤ w then AW d 248 56 [x0, x1, x2, x3, x4, x5] (st) σ ρ g τ Q else AW d 248 44 [x0, x1, x2, x3, x4, x5] (st) σ ρ g τ Q := aw_br m248 d248_41 rfl rfl rfl
theorem d248_44 : decode cX12_judge 44 = .ok (.iload 5, 2) := by decide +kernel
theorem s248_44 {d : Nat} {st : List Value} {σ : am_I} {ρ : am_R} {g : am_J} {τ : am_T} {Q : am_Q} {x0 x1 x2 x3 x4 : Value} {v : Int32} : AW d 248 44 [x0, x1, x2, x3, x4, .int v] (st) σ ρ g τ Q = AW d 248 46 [x0, x1, x2, x3, x4, .int v] (.int v :: st) σ ρ g τ Q := aw_lc m248 d248_44 rfl rfl rfl
theorem d248_46 : decode cX12_judge 46 = .ok (.aload_n 0, 1) := by decide +kernel
theorem s248_46 {d : Nat} {st : List Value} {σ : am_I} {ρ : am_R} {g : am_J} {τ : am_T} {Q : am_Q} {x1 x2 x3 x4 x5 : Value} {v : Nat} : AW d 248 46 [.ref v, x1, x2, x3, x4, x5] (st) σ ρ g τ Q = AW d 248 47 [.ref v, x1, x2, x3, x4, x5] (.ref v :: st) σ ρ g τ Q := aw_lc m248 d248_46 rfl rfl rfl
theorem d248_47 : decode cX12_judge 47 = .ok (.getfield 9, 3) := by decide +kernel
theorem s248_47 {d : Nat} {st : List Value} {σ : am_I} {ρ : am_R} {g : am_J} {τ : am_T} {Q : am_Q} {x0 x1 x2 x3 x4 x5 : Value} {a : Nat} (ht : τ.1 a = 12) : AW d 248 47 [x0, x1, x2, x3, x4, x5] (.ref a :: st) σ ρ g τ Q = AW d 248 50 [x0, x1, x2, x3, x4, x5] (va_rf (ρ a 0) :: st) σ ρ g τ Q := aw_gr m248 d248_47 rfl rfl rfl ht
theorem d248_50 : decode cX12_judge 50 = .ok (.bipush 7, 2) := by decide +kernel
theorem s248_50 {d : Nat} {st : List Value} {σ : am_I} {ρ : am_R} {g : am_J} {τ : am_T} {Q : am_Q} {x0 x1 x2 x3 x4 x5 : Value} : AW d 248 50 [x0, x1, x2, x3, x4, x5] (st) σ ρ g τ Q = AW d 248 52 [x0, x1, x2, x3, x4, x5] (.int 7 :: st) σ ρ g τ Q := aw_lc m248 d248_50 rfl rfl rfl
theorem d248_52 : decode cX12_judge 52 = .ok (.iaload, 1) := by decide +kernel
theorem s248_52 {d : Nat} {st : List Value} {σ : am_I} {ρ : am_R} {g : am_J} {τ : am_T} {Q : am_Q} {x0 x1 x2 x3 x4 x5 : Value} {a : Nat} {j : Int32} (ht : τ.1 a = 15) (hj : am_inb j (τ.2.1 a) = true) : AW d 248 52 [x0, x1, x2, x3, x4, x5] (.int j :: .ref a :: st) σ ρ g τ Q = AW d 248 53 [x0, x1, x2, x3, x4, x5] (.int (σ a j.toNatClampNeg) :: st) σ ρ g τ Q := aw_ial m248 d248_52 rfl ht hj
theorem d248_53 : decode cX12_judge 53 = .ok (.if_icmp .lt 8, 3) := by decide +kernel
theorem s248_53 {d : Nat} {st : List Value} {σ : am_I} {ρ : am_R} {g : am_J} {τ : am_T} {Q : am_Q} {x0 x1 x2 x3 x4 x5 : Value} {v w : Int32} : AW d 248 53 [x0, x1, x2, x3, x4, x5] (.int w :: .int v :: st) σ ρ g τ Q = if v < w then AW d 248 61 [x0, x1, x2, x3, x4, x5] (st) σ ρ g τ Q else AW d 248 56 [x0, x1, x2, x3, x4, x5] (st) σ ρ g τ Q := aw_br m248 d248_53 rfl rfl rfl
theorem d248_56 : decode cX12_judge 56 = .ok (.iload 4, 2) := by decide +kernel
theorem s248_56 {d : Nat} {st : List Value} {σ : am_I} {ρ : am_R} {g : am_J} {τ : am_T} {Q : am_Q} {x0 x1 x2 x3 x5 : Value} {v : Int32} : AW d 248 56 [x0, x1, x2, x3, .int v, x5] (st) σ ρ g τ Q = AW d 248 58 [x0, x1, x2, x3, .int v, x5] (.int v :: st) σ ρ g τ Q := aw_lc m248 d248_56 rfl rfl rfl
theorem d248_58 : decode cX12_judge 58 = .ok (.iconst 1, 1) := by decide +kernel
theorem s248_58 {d : Nat} {st : List Value} {σ : am_I} {ρ : am_R} {g : am_J} {τ : am_T} {Q : am_Q} {x0 x1 x2 x3 x4 x5 : Value} : AW d 248 58 [x0, x1, x2, x3, x4, x5] (st) σ ρ g τ Q = AW d 248 59 [x0, x1, x2, x3, x4, x5] (.int 1 :: st) σ ρ g τ Q := aw_lc m248 d248_58 rfl rfl rfl
theorem d248_59 : decode cX12_judge 59 = .ok (.iadd, 1) := by decide +kernel
theorem s248_59 {d : Nat} {st : List Value} {σ : am_I} {ρ : am_R} {g : am_J} {τ : am_T} {Q : am_Q} {x0 x1 x2 x3 x4 x5 : Value} {v w : Int32} : AW d 248 59 [x0, x1, x2, x3, x4, x5] (.int w :: .int v :: st) σ ρ g τ Q = AW d 248 60 [x0, x1, x2, x3, x4, x5] (.int (v + w) :: st) σ ρ g τ Q := aw_lc m248 d248_59 rfl rfl rfl
theorem d248_60 : decode cX12_judge 60 = .ok (.ireturn, 1) := by decide +kernel
theorem s248_60 {d : Nat} {σ : am_I} {ρ : am_R} {g : am_J} {τ : am_T} {Q : am_Q} {x0 x1 x2 x3 x4 x5 : Value} {v : Int32} : AW d 248 60 [x0, x1, x2, x3, x4, x5] ([.int v]) σ ρ g τ Q = Q (some (.int v)) σ ρ g τ := aw_ri m248 d248_60 rfl
theorem d248_61 : decode cX12_judge 61 = .ok (.iload_n 2, 1) := by decide +kernel
theorem s248_61 {d : Nat} {st : List Value} {σ : am_I} {ρ : am_R} {g : am_J} {τ : am_T} {Q : am_Q} {x0 x1 x3 x4 x5 : Value} {v : Int32} : AW d 248 61 [x0, x1, .int v, x3, x4, x5] (st) σ ρ g τ Q = AW d 248 62 [x0, x1, .int v, x3, x4, x5] (.int v :: st) σ ρ g τ Q := aw_lc m248 d248_61 rfl rfl rfl
theorem d248_62 : decode cX12_judge 62 = .ok (.iconst 1, 1) := by decide +kernel
theorem s248_62 {d : Nat} {st : List Value} {σ : am_I} {ρ : am_R} {g : am_J} {τ : am_T} {Q : am_Q} {x0 x1 x2 x3 x4 x5 : Value} : AW d 248 62 [x0, x1, x2, x3, x4, x5] (st) σ ρ g τ Q = AW d 248 63 [x0, x1, x2, x3, x4, x5] (.int 1 :: st) σ ρ g τ Q := aw_lc m248 d248_62 rfl rfl rfl
theorem d248_63 : decode cX12_judge 63 = .ok (.iload 5, 2) := by decide +kernel
theorem s248_63 {d : Nat} {st : List Value} {σ : am_I} {ρ : am_R} {g : am_J} {τ : am_T} {Q : am_Q} {x0 x1 x2 x3 x4 : Value} {v : Int32} : AW d 248 63 [x0, x1, x2, x3, x4, .int v] (st) σ ρ g τ Q = AW d 248 65 [x0, x1, x2, x3, x4, .int v] (.int v :: st) σ ρ g τ Q := aw_lc m248 d248_63 rfl rfl rfl
theorem d248_65 : decode cX12_judge 65 = .ok (.ishl, 1) := by decide +kernel
theorem s248_65 {d : Nat} {st : List Value} {σ : am_I} {ρ : am_R} {g : am_J} {τ : am_T} {Q : am_Q} {x0 x1 x2 x3 x4 x5 : Value} {v w : Int32} : AW d 248 65 [x0, x1, x2, x3, x4, x5] (.int w :: .int v :: st) σ ρ g τ Q = AW d 248 66 [x0, x1, x2, x3, x4, x5] (.int (v <<< (w &&& 31)) :: st) σ ρ g τ Q := aw_lc m248 d248_65 rfl rfl rfl
theorem d248_66 : decode cX12_judge 66 = .ok (.ior, 1) := by decide +kernel
theorem s248_66 {d : Nat} {st : List Value} {σ : am_I} {ρ : am_R} {g : am_J} {τ : am_T} {Q : am_Q} {x0 x1 x2 x3 x4 x5 : Value} {v w : Int32} : AW d 248 66 [x0, x1, x2, x3, x4, x5] (.int w :: .int v :: st) σ ρ g τ Q = AW d 248 67 [x0, x1, x2, x3, x4, x5] (.int (v ||| w) :: st) σ ρ g τ Q := aw_lc m248 d248_66 rfl rfl rfl
theorem d248_67 : decode cX12_judge 67 = .ok (.istore_n 2, 1) := by decide +kernel
theorem s248_67 {d : Nat} {st : List Value} {σ : am_I} {ρ : am_R} {g : am_J} {τ : am_T} {Q : am_Q} {x0 x2 x3 x4 x5 : Value} {v : Int32} {u : Int32} : AW d 248 67 [x0, .int u, x2, x3, x4, x5] (.int v :: st) σ ρ g τ Q = AW d 248 68 [x0, .int u, .int v, x3, x4, x5] (st) σ ρ g τ Q := aw_lc m248 d248_67 rfl rfl rfl
theorem d248_68 : decode cX12_judge 68 = .ok (.aload_n 0, 1) := by decide +kernel
theorem s248_68 {d : Nat} {st : List Value} {σ : am_I} {ρ : am_R} {g : am_J} {τ : am_T} {Q : am_Q} {x1 x2 x3 x4 x5 : Value} {v : Nat} : AW d 248 68 [.ref v, x1, x2, x3, x4, x5] (st) σ ρ g τ Q = AW d 248 69 [.ref v, x1, x2, x3, x4, x5] (.ref v :: st) σ ρ g τ Q := aw_lc m248 d248_68 rfl rfl rfl
theorem d248_69 : decode cX12_judge 69 = .ok (.getfield 144, 3) := by decide +kernel
theorem s248_69 {d : Nat} {st : List Value} {σ : am_I} {ρ : am_R} {g : am_J} {τ : am_T} {Q : am_Q} {x0 x1 x2 x3 x4 x5 : Value} {a : Nat} (ht : τ.1 a = 12) : AW d 248 69 [x0, x1, x2, x3, x4, x5] (.ref a :: st) σ ρ g τ Q = AW d 248 72 [x0, x1, x2, x3, x4, x5] (va_rf (ρ a 46) :: st) σ ρ g τ Q := aw_gr m248 d248_69 rfl rfl rfl ht
theorem d248_72 : decode cX12_judge 72 = .ok (.iload 4, 2) := by decide +kernel
theorem s248_72 {d : Nat} {st : List Value} {σ : am_I} {ρ : am_R} {g : am_J} {τ : am_T} {Q : am_Q} {x0 x1 x2 x3 x5 : Value} {v : Int32} : AW d 248 72 [x0, x1, x2, x3, .int v, x5] (st) σ ρ g τ Q = AW d 248 74 [x0, x1, x2, x3, .int v, x5] (.int v :: st) σ ρ g τ Q := aw_lc m248 d248_72 rfl rfl rfl
theorem d248_74 : decode cX12_judge 74 = .ok (.iaload, 1) := by decide +kernel
theorem s248_74 {d : Nat} {st : List Value} {σ : am_I} {ρ : am_R} {g : am_J} {τ : am_T} {Q : am_Q} {x0 x1 x2 x3 x4 x5 : Value} {a : Nat} {j : Int32} (ht : τ.1 a = 15) (hj : am_inb j (τ.2.1 a) = true) : AW d 248 74 [x0, x1, x2, x3, x4, x5] (.int j :: .ref a :: st) σ ρ g τ Q = AW d 248 75 [x0, x1, x2, x3, x4, x5] (.int (σ a j.toNatClampNeg) :: st) σ ρ g τ Q := aw_ial m248 d248_74 rfl ht hj
theorem d248_75 : decode cX12_judge 75 = .ok (.aload_n 0, 1) := by decide +kernel
theorem s248_75 {d : Nat} {st : List Value} {σ : am_I} {ρ : am_R} {g : am_J} {τ : am_T} {Q : am_Q} {x1 x2 x3 x4 x5 : Value} {v : Nat} : AW d 248 75 [.ref v, x1, x2, x3, x4, x5] (st) σ ρ g τ Q = AW d 248 76 [.ref v, x1, x2, x3, x4, x5] (.ref v :: st) σ ρ g τ Q := aw_lc m248 d248_75 rfl rfl rfl
theorem d248_76 : decode cX12_judge 76 = .ok (.iload_n 2, 1) := by decide +kernel
theorem s248_76 {d : Nat} {st : List Value} {σ : am_I} {ρ : am_R} {g : am_J} {τ : am_T} {Q : am_Q} {x0 x1 x3 x4 x5 : Value} {v : Int32} : AW d 248 76 [x0, x1, .int v, x3, x4, x5] (st) σ ρ g τ Q = AW d 248 77 [x0, x1, .int v, x3, x4, x5] (.int v :: st) σ ρ g τ Q := aw_lc m248 d248_76 rfl rfl rfl
theorem d248_77 : decode cX12_judge 77 = .ok (.iload 5, 2) := by decide +kernel
theorem s248_77 {d : Nat} {st : List Value} {σ : am_I} {ρ : am_R} {g : am_J} {τ : am_T} {Q : am_Q} {x0 x1 x2 x3 x4 : Value} {v : Int32} : AW d 248 77 [x0, x1, x2, x3, x4, .int v] (st) σ ρ g τ Q = AW d 248 79 [x0, x1, x2, x3, x4, .int v] (.int v :: st) σ ρ g τ Q := aw_lc m248 d248_77 rfl rfl rfl
theorem d248_79 : decode cX12_judge 79 = .ok (.iconst 1, 1) := by decide +kernel
theorem s248_79 {d : Nat} {st : List Value} {σ : am_I} {ρ : am_R} {g : am_J} {τ : am_T} {Q : am_Q} {x0 x1 x2 x3 x4 x5 : Value} : AW d 248 79 [x0, x1, x2, x3, x4, x5] (st) σ ρ g τ Q = AW d 248 80 [x0, x1, x2, x3, x4, x5] (.int 1 :: st) σ ρ g τ Q := aw_lc m248 d248_79 rfl rfl rfl
theorem d248_80 : decode cX12_judge 80 = .ok (.iadd, 1) := by decide +kernel
theorem s248_80 {d : Nat} {st : List Value} {σ : am_I} {ρ : am_R} {g : am_J} {τ : am_T} {Q : am_Q} {x0 x1 x2 x3 x4 x5 : Value} {v w : Int32} : AW d 248 80 [x0, x1, x2, x3, x4, x5] (.int w :: .int v :: st) σ ρ g τ Q = AW d 248 81 [x0, x1, x2, x3, x4, x5] (.int (v + w) :: st) σ ρ g τ Q := aw_lc m248 d248_80 rfl rfl rfl
theorem d248_81 : decode cX12_judge 81 = .ok (.invokevirtual 431, 3) := by decide +kernel
theorem s248_81 {d : Nat} {st : List Value} {σ : am_I} {ρ : am_R} {g : am_J} {τ : am_T} {Q : am_Q} {x0 x1 x2 x3 x4 x5 : Value} {p0 : Nat} {p1 : Int32} {p2 : Int32} (ht : τ.1 p0 = 12) (hs : st.length ≤ 4) : AW (d + 1) 248 81 [x0, x1, x2, x3, x4, x5] (.int p2 :: .int p1 :: .ref p0 :: st) σ ρ g τ Q = AW d 242 0 [.ref p0, .int p1, .int p2, am_jk, am_jk, am_jk, am_jk] [] σ ρ g τ (fun r9 σ ρ g τ => AW (d + 1) 248 84 [x0, x1, x2, x3, x4, x5] (r9.toList ++ st) σ ρ g τ Q) := aw_cv m248 d248_81 rfl m242 rfl rfl (by decide) en242 ok242 rfl ht hs
theorem d248_84 : decode cX12_judge 84 = .ok (.if_icmp .eq 8, 3) := by decide +kernel
theorem s248_84 {d : Nat} {st : List Value} {σ : am_I} {ρ : am_R} {g : am_J} {τ : am_T} {Q : am_Q} {x0 x1 x2 x3 x4 x5 : Value} {v w : Int32} : AW d 248 84 [x0, x1, x2, x3, x4, x5] (.int w :: .int v :: st) σ ρ g τ Q = if v = w then AW d 248 92 [x0, x1, x2, x3, x4, x5] (st) σ ρ g τ Q else AW d 248 87 [x0, x1, x2, x3, x4, x5] (st) σ ρ g τ Q := aw_br m248 d248_84 rfl rfl rfl
theorem d248_87 : decode cX12_judge 87 = .ok (.iload 4, 2) := by decide +kernel
theorem s248_87 {d : Nat} {st : List Value} {σ : am_I} {ρ : am_R} {g : am_J} {τ : am_T} {Q : am_Q} {x0 x1 x2 x3 x5 : Value} {v : Int32} : AW d 248 87 [x0, x1, x2, x3, .int v, x5] (st) σ ρ g τ Q = AW d 248 89 [x0, x1, x2, x3, .int v, x5] (.int v :: st) σ ρ g τ Q := aw_lc m248 d248_87 rfl rfl rfl
theorem d248_89 : decode cX12_judge 89 = .ok (.iconst 1, 1) := by decide +kernel
theorem s248_89 {d : Nat} {st : List Value} {σ : am_I} {ρ : am_R} {g : am_J} {τ : am_T} {Q : am_Q} {x0 x1 x2 x3 x4 x5 : Value} : AW d 248 89 [x0, x1, x2, x3, x4, x5] (st) σ ρ g τ Q = AW d 248 90 [x0, x1, x2, x3, x4, x5] (.int 1 :: st) σ ρ g τ Q := aw_lc m248 d248_89 rfl rfl rfl
theorem d248_90 : decode cX12_judge 90 = .ok (.iadd, 1) := by decide +kernel
theorem s248_90 {d : Nat} {st : List Value} {σ : am_I} {ρ : am_R} {g : am_J} {τ : am_T} {Q : am_Q} {x0 x1 x2 x3 x4 x5 : Value} {v w : Int32} : AW d 248 90 [x0, x1, x2, x3, x4, x5] (.int w :: .int v :: st) σ ρ g τ Q = AW d 248 91 [x0, x1, x2, x3, x4, x5] (.int (v + w) :: st) σ ρ g τ Q := aw_lc m248 d248_90 rfl rfl rfl
theorem d248_91 : decode cX12_judge 91 = .ok (.ireturn, 1) := by decide +kernel
theorem s248_91 {d : Nat} {σ : am_I} {ρ : am_R} {g : am_J} {τ : am_T} {Q : am_Q} {x0 x1 x2 x3 x4 x5 : Value} {v : Int32} : AW d 248 91 [x0, x1, x2, x3, x4, x5] ([.int v]) σ ρ g τ Q = Q (some (.int v)) σ ρ g τ := aw_ri m248 d248_91 rfl
theorem d248_92 : decode cX12_judge 92 = .ok (.iload 5, 2) := by decide +kernel
theorem s248_92 {d : Nat} {st : List Value} {σ : am_I} {ρ : am_R} {g : am_J} {τ : am_T} {Q : am_Q} {x0 x1 x2 x3 x4 : Value} {v : Int32} : AW d 248 92 [x0, x1, x2, x3, x4, .int v] (st) σ ρ g τ Q = AW d 248 94 [x0, x1, x2, x3, x4, .int v] (.int v :: st) σ ρ g τ Q := aw_lc m248 d248_92 rfl rfl rfl
theorem d248_94 : decode cX12_judge 94 = .ok (.istore_n 3, 1) := by decide +kernel
theorem s248_94 {d : Nat} {st : List Value} {σ : am_I} {ρ : am_R} {g : am_J} {τ : am_T} {Q : am_Q} {x0 x1 x3 x4 x5 : Value} {v : Int32} {u : Int32} : AW d 248 94 [x0, x1, .int u, x3, x4, x5] (.int v :: st) σ ρ g τ Q = AW d 248 95 [x0, x1, .int u, .int v, x4, x5] (st) σ ρ g τ Q := aw_lc m248 d248_94 rfl rfl rfl
theorem d248_95 : decode cX12_judge 95 = .ok (.iinc 4 1, 3) := by decide +kernel
theorem s248_95 {d : Nat} {st : List Value} {σ : am_I} {ρ : am_R} {g : am_J} {τ : am_T} {Q : am_Q} {x0 x1 x2 x5 : Value} {v : Int32} {u : Int32} : AW d 248 95 [x0, x1, x2, .int u, .int v, x5] (st) σ ρ g τ Q = AW d 248 98 [x0, x1, x2, .int u, .int (v + 1), x5] (st) σ ρ g τ Q := aw_lc m248 d248_95 rfl rfl rfl
theorem d248_98 : decode cX12_judge 98 = .ok (.goto (-78), 3) := by decide +kernel
theorem s248_98 {d : Nat} {st : List Value} {σ : am_I} {ρ : am_R} {g : am_J} {τ : am_T} {Q : am_Q} {x0 x1 x2 x3 x4 x5 : Value} : AW d 248 98 [x0, x1, x2, x3, x4, x5] (st) σ ρ g τ Q = AW d 248 20 [x0, x1, x2, x3, x4, x5] (st) σ ρ g τ Q := aw_lc m248 d248_98 rfl rfl rfl
theorem d248_101 : decode cX12_judge 101 = .ok (.aload_n 0, 1) := by decide +kernel
theorem s248_101 {d : Nat} {st : List Value} {σ : am_I} {ρ : am_R} {g : am_J} {τ : am_T} {Q : am_Q} {x1 x2 x3 x4 x5 : Value} {v : Nat} : AW d 248 101 [.ref v, x1, x2, x3, x4, x5] (st) σ ρ g τ Q = AW d 248 102 [.ref v, x1, x2, x3, x4, x5] (.ref v :: st) σ ρ g τ Q := aw_lc m248 d248_101 rfl rfl rfl
theorem d248_102 : decode cX12_judge 102 = .ok (.iload_n 2, 1) := by decide +kernel
theorem s248_102 {d : Nat} {st : List Value} {σ : am_I} {ρ : am_R} {g : am_J} {τ : am_T} {Q : am_Q} {x0 x1 x3 x4 x5 : Value} {v : Int32} : AW d 248 102 [x0, x1, .int v, x3, x4, x5] (st) σ ρ g τ Q = AW d 248 103 [x0, x1, .int v, x3, x4, x5] (.int v :: st) σ ρ g τ Q := aw_lc m248 d248_102 rfl rfl rfl
theorem d248_103 : decode cX12_judge 103 = .ok (.aload_n 0, 1) := by decide +kernel
theorem s248_103 {d : Nat} {st : List Value} {σ : am_I} {ρ : am_R} {g : am_J} {τ : am_T} {Q : am_Q} {x1 x2 x3 x4 x5 : Value} {v : Nat} : AW d 248 103 [.ref v, x1, x2, x3, x4, x5] (st) σ ρ g τ Q = AW d 248 104 [.ref v, x1, x2, x3, x4, x5] (.ref v :: st) σ ρ g τ Q := aw_lc m248 d248_103 rfl rfl rfl
theorem d248_104 : decode cX12_judge 104 = .ok (.getfield 9, 3) := by decide +kernel
theorem s248_104 {d : Nat} {st : List Value} {σ : am_I} {ρ : am_R} {g : am_J} {τ : am_T} {Q : am_Q} {x0 x1 x2 x3 x4 x5 : Value} {a : Nat} (ht : τ.1 a = 12) : AW d 248 104 [x0, x1, x2, x3, x4, x5] (.ref a :: st) σ ρ g τ Q = AW d 248 107 [x0, x1, x2, x3, x4, x5] (va_rf (ρ a 0) :: st) σ ρ g τ Q := aw_gr m248 d248_104 rfl rfl rfl ht
theorem d248_107 : decode cX12_judge 107 = .ok (.bipush 7, 2) := by decide +kernel
theorem s248_107 {d : Nat} {st : List Value} {σ : am_I} {ρ : am_R} {g : am_J} {τ : am_T} {Q : am_Q} {x0 x1 x2 x3 x4 x5 : Value} : AW d 248 107 [x0, x1, x2, x3, x4, x5] (st) σ ρ g τ Q = AW d 248 109 [x0, x1, x2, x3, x4, x5] (.int 7 :: st) σ ρ g τ Q := aw_lc m248 d248_107 rfl rfl rfl
theorem d248_109 : decode cX12_judge 109 = .ok (.iaload, 1) := by decide +kernel
theorem s248_109 {d : Nat} {st : List Value} {σ : am_I} {ρ : am_R} {g : am_J} {τ : am_T} {Q : am_Q} {x0 x1 x2 x3 x4 x5 : Value} {a : Nat} {j : Int32} (ht : τ.1 a = 15) (hj : am_inb j (τ.2.1 a) = true) : AW d 248 109 [x0, x1, x2, x3, x4, x5] (.int j :: .ref a :: st) σ ρ g τ Q = AW d 248 110 [x0, x1, x2, x3, x4, x5] (.int (σ a j.toNatClampNeg) :: st) σ ρ g τ Q := aw_ial m248 d248_109 rfl ht hj
theorem d248_110 : decode cX12_judge 110 = .ok (.invokevirtual 431, 3) := by decide +kernel
theorem s248_110 {d : Nat} {st : List Value} {σ : am_I} {ρ : am_R} {g : am_J} {τ : am_T} {Q : am_Q} {x0 x1 x2 x3 x4 x5 : Value} {p0 : Nat} {p1 : Int32} {p2 : Int32} (ht : τ.1 p0 = 12) (hs : st.length ≤ 4) : AW (d + 1) 248 110 [x0, x1, x2, x3, x4, x5] (.int p2 :: .int p1 :: .ref p0 :: st) σ ρ g τ Q = AW d 242 0 [.ref p0, .int p1, .int p2, am_jk, am_jk, am_jk, am_jk] [] σ ρ g τ (fun r9 σ ρ g τ => AW (d + 1) 248 113 [x0, x1, x2, x3, x4, x5] (r9.toList ++ st) σ ρ g τ Q) := aw_cv m248 d248_110 rfl m242 rfl rfl (by decide) en242 ok242 rfl ht hs
theorem d248_113 : decode cX12_judge 113 = .ok (.iload_n 1, 1) := by decide +kernel
theorem s248_113 {d : Nat} {st : List Value} {σ : am_I} {ρ : am_R} {g : am_J} {τ : am_T} {Q : am_Q} {x0 x2 x3 x4 x5 : Value} {v : Int32} : AW d 248 113 [x0, .int v, x2, x3, x4, x5] (st) σ ρ g τ Q = AW d 248 114 [x0, .int v, x2, x3, x4, x5] (.int v :: st) σ ρ g τ Q := aw_lc m248 d248_113 rfl rfl rfl
theorem d248_114 : decode cX12_judge 114 = .ok (.if_icmp .ge 12, 3) := by decide +kernel
theorem s248_114 {d : Nat} {st : List Value} {σ : am_I} {ρ : am_R} {g : am_J} {τ : am_T} {Q : am_Q} {x0 x1 x2 x3 x4 x5 : Value} {v w : Int32} : AW d 248 114 [x0, x1, x2, x3, x4, x5] (.int w :: .int v :: st) σ ρ g τ Q = if w ≤ v then AW d 248 126 [x0, x1, x2, x3, x4, x5] (st) σ ρ g τ Q else AW d 248 117 [x0, x1, x2, x3, x4, x5] (st) σ ρ g τ Q := aw_br m248 d248_114 rfl rfl rfl
theorem d248_117 : decode cX12_judge 117 = .ok (.aload_n 0, 1) := by decide +kernel
theorem s248_117 {d : Nat} {st : List Value} {σ : am_I} {ρ : am_R} {g : am_J} {τ : am_T} {Q : am_Q} {x1 x2 x3 x4 x5 : Value} {v : Nat} : AW d 248 117 [.ref v, x1, x2, x3, x4, x5] (st) σ ρ g τ Q = AW d 248 118 [.ref v, x1, x2, x3, x4, x5] (.ref v :: st) σ ρ g τ Q := aw_lc m248 d248_117 rfl rfl rfl
theorem d248_118 : decode cX12_judge 118 = .ok (.getfield 437, 3) := by decide +kernel
theorem s248_118 {d : Nat} {st : List Value} {σ : am_I} {ρ : am_R} {g : am_J} {τ : am_T} {Q : am_Q} {x0 x1 x2 x3 x4 x5 : Value} {a : Nat} (ht : τ.1 a = 12) : AW d 248 118 [x0, x1, x2, x3, x4, x5] (.ref a :: st) σ ρ g τ Q = AW d 248 121 [x0, x1, x2, x3, x4, x5] (.int (σ a 47) :: st) σ ρ g τ Q := aw_gi m248 d248_118 rfl rfl rfl ht
theorem d248_121 : decode cX12_judge 121 = .ok (.iconst 1, 1) := by decide +kernel
theorem s248_121 {d : Nat} {st : List Value} {σ : am_I} {ρ : am_R} {g : am_J} {τ : am_T} {Q : am_Q} {x0 x1 x2 x3 x4 x5 : Value} : AW d 248 121 [x0, x1, x2, x3, x4, x5] (st) σ ρ g τ Q = AW d 248 122 [x0, x1, x2, x3, x4, x5] (.int 1 :: st) σ ρ g τ Q := aw_lc m248 d248_121 rfl rfl rfl
theorem d248_122 : decode cX12_judge 122 = .ok (.iadd, 1) := by decide +kernel
theorem s248_122 {d : Nat} {st : List Value} {σ : am_I} {ρ : am_R} {g : am_J} {τ : am_T} {Q : am_Q} {x0 x1 x2 x3 x4 x5 : Value} {v w : Int32} : AW d 248 122 [x0, x1, x2, x3, x4, x5] (.int w :: .int v :: st) σ ρ g τ Q = AW d 248 123 [x0, x1, x2, x3, x4, x5] (.int (v + w) :: st) σ ρ g τ Q := aw_lc m248 d248_122 rfl rfl rfl
theorem d248_123 : decode cX12_judge 123 = .ok (.goto 4, 3) := by decide +kernel
theorem s248_123 {d : Nat} {st : List Value} {σ : am_I} {ρ : am_R} {g : am_J} {τ : am_T} {Q : am_Q} {x0 x1 x2 x3 x4 x5 : Value} : AW d 248 123 [x0, x1, x2, x3, x4, x5] (st) σ ρ g τ Q = AW d 248 127 [x0, x1, x2, x3, x4, x5] (st) σ ρ g τ Q := aw_lc m248 d248_123 rfl rfl rfl
theorem d248_126 : decode cX12_judge 126 = .ok (.iconst 0, 1) := by decide +kernel
theorem s248_126 {d : Nat} {st : List Value} {σ : am_I} {ρ : am_R} {g : am_J} {τ : am_T} {Q : am_Q} {x0 x1 x2 x3 x4 x5 : Value} : AW d 248 126 [x0, x1, x2, x3, x4, x5] (st) σ ρ g τ Q = AW d 248 127 [x0, x1, x2, x3, x4, x5] (.int 0 :: st) σ ρ g τ Q := aw_lc m248 d248_126 rfl rfl rfl
theorem d248_127 : decode cX12_judge 127 = .ok (.ireturn, 1) := by decide +kernel
theorem s248_127 {d : Nat} {σ : am_I} {ρ : am_R} {g : am_J} {τ : am_T} {Q : am_Q} {x0 x1 x2 x3 x4 x5 : Value} {v : Int32} : AW d 248 127 [x0, x1, x2, x3, x4, x5] ([.int v]) σ ρ g τ Q = Q (some (.int v)) σ ρ g τ := aw_ri m248 d248_127 rfl
theorem d249_0 : decode cX12_narrowed 0 = .ok (.iload_n 0, 1) := by decide +kernel
theorem s249_0 {d : Nat} {st : List Value} {σ : am_I} {ρ : am_R} {g : am_J} {τ : am_T} {Q : am_Q} {x1 : Value} {v : Int32} : AW d 249 0 [.int v, x1] (st) σ ρ g τ Q = AW d 249 1 [.int v, x1] (.int v :: st) σ ρ g τ Q := aw_lc m249 d249_0 rfl rfl rfl
theorem d249_1 : decode cX12_narrowed 1 = .ok (.tableswitch 53 0 4 #[35, 39, 53, 53, 43], 35) := by decide +kernel
theorem s249_1_0 {d : Nat} {st : List Value} {σ : am_I} {ρ : am_R} {g : am_J} {τ : am_T} {Q : am_Q} {x0 x1 : Value} : AW d 249 1 [x0, x1] (.int 0 :: st) σ ρ g τ Q = AW d 249 36 [x0, x1] (st) σ ρ g τ Q := aw_lc m249 d249_1 rfl rfl rfl
theorem s249_1_1 {d : Nat} {st : List Value} {σ : am_I} {ρ : am_R} {g : am_J} {τ : am_T} {Q : am_Q} {x0 x1 : Value} : AW d 249 1 [x0, x1] (.int 1 :: st) σ ρ g τ Q = AW d 249 40 [x0, x1] (st) σ ρ g τ Q := aw_lc m249 d249_1 rfl rfl rfl
theorem s249_1_2 {d : Nat} {st : List Value} {σ : am_I} {ρ : am_R} {g : am_J} {τ : am_T} {Q : am_Q} {x0 x1 : Value} : AW d 249 1 [x0, x1] (.int 2 :: st) σ ρ g τ Q = AW d 249 54 [x0, x1] (st) σ ρ g τ Q := aw_lc m249 d249_1 rfl rfl rfl
theorem s249_1_3 {d : Nat} {st : List Value} {σ : am_I} {ρ : am_R} {g : am_J} {τ : am_T} {Q : am_Q} {x0 x1 : Value} : AW d 249 1 [x0, x1] (.int 3 :: st) σ ρ g τ Q = AW d 249 54 [x0, x1] (st) σ ρ g τ Q := aw_lc m249 d249_1 rfl rfl rfl
theorem s249_1_4 {d : Nat} {st : List Value} {σ : am_I} {ρ : am_R} {g : am_J} {τ : am_T} {Q : am_Q} {x0 x1 : Value} : AW d 249 1 [x0, x1] (.int 4 :: st) σ ρ g τ Q = AW d 249 44 [x0, x1] (st) σ ρ g τ Q := aw_lc m249 d249_1 rfl rfl rfl
theorem s249_1_d {d : Nat} {st : List Value} {σ : am_I} {ρ : am_R} {g : am_J} {τ : am_T} {Q : am_Q} {x0 x1 : Value} {v : Int32} (h : v.toInt < 0 ∨ 4 < v.toInt) : AW d 249 1 [x0, x1] (.int v :: st) σ ρ g τ Q = AW d 249 54 [x0, x1] (st) σ ρ g τ Q := aw_lc m249 d249_1 rfl rfl (by simp only [am_lc]; rw [if_pos h]; rfl)
theorem d249_36 : decode cX12_narrowed 36 = .ok (.iload_n 1, 1) := by decide +kernel
theorem s249_36 {d : Nat} {st : List Value} {σ : am_I} {ρ : am_R} {g : am_J} {τ : am_T} {Q : am_Q} {x0 : Value} {v : Int32} : AW d 249 36 [x0, .int v] (st) σ ρ g τ Q = AW d 249 37 [x0, .int v] (.int v :: st) σ ρ g τ Q := aw_lc m249 d249_36 rfl rfl rfl
theorem d249_37 : decode cX12_narrowed 37 = .ok (.i2b, 1) := by decide +kernel
theorem s249_37 {d : Nat} {st : List Value} {σ : am_I} {ρ : am_R} {g : am_J} {τ : am_T} {Q : am_Q} {x0 x1 : Value} {v : Int32} : AW d 249 37 [x0, x1] (.int v :: st) σ ρ g τ Q = AW d 249 38 [x0, x1] (.int v.toInt8.toInt32 :: st) σ ρ g τ Q := aw_lc m249 d249_37 rfl rfl rfl
theorem d249_38 : decode cX12_narrowed 38 = .ok (.i2l, 1) := by decide +kernel
theorem s249_38 {d : Nat} {st : List Value} {σ : am_I} {ρ : am_R} {g : am_J} {τ : am_T} {Q : am_Q} {x0 x1 : Value} {v : Int32} : AW d 249 38 [x0, x1] (.int v :: st) σ ρ g τ Q = AW d 249 39 [x0, x1] (.long v.toInt64 :: st) σ ρ g τ Q := aw_lc m249 d249_38 rfl rfl rfl
theorem d249_39 : decode cX12_narrowed 39 = .ok (.lreturn, 1) := by decide +kernel
theorem s249_39 {d : Nat} {σ : am_I} {ρ : am_R} {g : am_J} {τ : am_T} {Q : am_Q} {x0 x1 : Value} {v : Int64} : AW d 249 39 [x0, x1] ([.long v]) σ ρ g τ Q = Q (some (.long v)) σ ρ g τ := aw_rl m249 d249_39 rfl
theorem d249_40 : decode cX12_narrowed 40 = .ok (.iload_n 1, 1) := by decide +kernel
theorem s249_40 {d : Nat} {st : List Value} {σ : am_I} {ρ : am_R} {g : am_J} {τ : am_T} {Q : am_Q} {x0 : Value} {v : Int32} : AW d 249 40 [x0, .int v] (st) σ ρ g τ Q = AW d 249 41 [x0, .int v] (.int v :: st) σ ρ g τ Q := aw_lc m249 d249_40 rfl rfl rfl
theorem d249_41 : decode cX12_narrowed 41 = .ok (.i2s, 1) := by decide +kernel
theorem s249_41 {d : Nat} {st : List Value} {σ : am_I} {ρ : am_R} {g : am_J} {τ : am_T} {Q : am_Q} {x0 x1 : Value} {v : Int32} : AW d 249 41 [x0, x1] (.int v :: st) σ ρ g τ Q = AW d 249 42 [x0, x1] (.int v.toInt16.toInt32 :: st) σ ρ g τ Q := aw_lc m249 d249_41 rfl rfl rfl
theorem d249_42 : decode cX12_narrowed 42 = .ok (.i2l, 1) := by decide +kernel
theorem s249_42 {d : Nat} {st : List Value} {σ : am_I} {ρ : am_R} {g : am_J} {τ : am_T} {Q : am_Q} {x0 x1 : Value} {v : Int32} : AW d 249 42 [x0, x1] (.int v :: st) σ ρ g τ Q = AW d 249 43 [x0, x1] (.long v.toInt64 :: st) σ ρ g τ Q := aw_lc m249 d249_42 rfl rfl rfl
theorem d249_43 : decode cX12_narrowed 43 = .ok (.lreturn, 1) := by decide +kernel
theorem s249_43 {d : Nat} {σ : am_I} {ρ : am_R} {g : am_J} {τ : am_T} {Q : am_Q} {x0 x1 : Value} {v : Int64} : AW d 249 43 [x0, x1] ([.long v]) σ ρ g τ Q = Q (some (.long v)) σ ρ g τ := aw_rl m249 d249_43 rfl
theorem d249_44 : decode cX12_narrowed 44 = .ok (.iload_n 1, 1) := by decide +kernel
theorem s249_44 {d : Nat} {st : List Value} {σ : am_I} {ρ : am_R} {g : am_J} {τ : am_T} {Q : am_Q} {x0 : Value} {v : Int32} : AW d 249 44 [x0, .int v] (st) σ ρ g τ Q = AW d 249 45 [x0, .int v] (.int v :: st) σ ρ g τ Q := aw_lc m249 d249_44 rfl rfl rfl
theorem d249_45 : decode cX12_narrowed 45 = .ok (.ifCond .ne 7, 3) := by decide +kernel
theorem s249_45 {d : Nat} {st : List Value} {σ : am_I} {ρ : am_R} {g : am_J} {τ : am_T} {Q : am_Q} {x0 x1 : Value} {v : Int32} : AW d 249 45 [x0, x1] (.int v :: st) σ ρ g τ Q = if ¬ v = 0 then AW d 249 52 [x0, x1] (st) σ ρ g τ Q else AW d 249 48 [x0, x1] (st) σ ρ g τ Q := aw_br m249 d249_45 rfl rfl rfl
theorem d249_48 : decode cX12_narrowed 48 = .ok (.lconst 0, 1) := by decide +kernel
theorem s249_48 {d : Nat} {st : List Value} {σ : am_I} {ρ : am_R} {g : am_J} {τ : am_T} {Q : am_Q} {x0 x1 : Value} : AW d 249 48 [x0, x1] (st) σ ρ g τ Q = AW d 249 49 [x0, x1] (.long 0 :: st) σ ρ g τ Q := aw_lc m249 d249_48 rfl rfl rfl
theorem d249_49 : decode cX12_narrowed 49 = .ok (.goto 4, 3) := by decide +kernel
theorem s249_49 {d : Nat} {st : List Value} {σ : am_I} {ρ : am_R} {g : am_J} {τ : am_T} {Q : am_Q} {x0 x1 : Value} : AW d 249 49 [x0, x1] (st) σ ρ g τ Q = AW d 249 53 [x0, x1] (st) σ ρ g τ Q := aw_lc m249 d249_49 rfl rfl rfl
theorem d249_52 : decode cX12_narrowed 52 = .ok (.lconst 1, 1) := by decide +kernel
theorem s249_52 {d : Nat} {st : List Value} {σ : am_I} {ρ : am_R} {g : am_J} {τ : am_T} {Q : am_Q} {x0 x1 : Value} : AW d 249 52 [x0, x1] (st) σ ρ g τ Q = AW d 249 53 [x0, x1] (.long 1 :: st) σ ρ g τ Q := aw_lc m249 d249_52 rfl rfl rfl
theorem d249_53 : decode cX12_narrowed 53 = .ok (.lreturn, 1) := by decide +kernel
theorem s249_53 {d : Nat} {σ : am_I} {ρ : am_R} {g : am_J} {τ : am_T} {Q : am_Q} {x0 x1 : Value} {v : Int64} : AW d 249 53 [x0, x1] ([.long v]) σ ρ g τ Q = Q (some (.long v)) σ ρ g τ := aw_rl m249 d249_53 rfl
theorem d249_54 : decode cX12_narrowed 54 = .ok (.iload_n 1, 1) := by decide +kernel
theorem s249_54 {d : Nat} {st : List Value} {σ : am_I} {ρ : am_R} {g : am_J} {τ : am_T} {Q : am_Q} {x0 : Value} {v : Int32} : AW d 249 54 [x0, .int v] (st) σ ρ g τ Q = AW d 249 55 [x0, .int v] (.int v :: st) σ ρ g τ Q := aw_lc m249 d249_54 rfl rfl rfl
theorem d249_55 : decode cX12_narrowed 55 = .ok (.i2l, 1) := by decide +kernel
theorem s249_55 {d : Nat} {st : List Value} {σ : am_I} {ρ : am_R} {g : am_J} {τ : am_T} {Q : am_Q} {x0 x1 : Value} {v : Int32} : AW d 249 55 [x0, x1] (.int v :: st) σ ρ g τ Q = AW d 249 56 [x0, x1] (.long v.toInt64 :: st) σ ρ g τ Q := aw_lc m249 d249_55 rfl rfl rfl
theorem d249_56 : decode cX12_narrowed 56 = .ok (.lreturn, 1) := by decide +kernel
theorem s249_56 {d : Nat} {σ : am_I} {ρ : am_R} {g : am_J} {τ : am_T} {Q : am_Q} {x0 x1 : Value} {v : Int64} : AW d 249 56 [x0, x1] ([.long v]) σ ρ g τ Q = Q (some (.long v)) σ ρ g τ := aw_rl m249 d249_56 rfl
theorem d250_0 : decode cX12_sheet 0 = .ok (.iload_n 1, 1) := by decide +kernel
theorem s250_0 {d : Nat} {st : List Value} {σ : am_I} {ρ : am_R} {g : am_J} {τ : am_T} {Q : am_Q} {x0 x2 x3 x4 : Value} {v : Int32} : AW d 250 0 [x0, .int v, x2, x3, x4] (st) σ ρ g τ Q = AW d 250 1 [x0, .int v, x2, x3, x4] (.int v :: st) σ ρ g τ Q := aw_lc m250 d250_0 rfl rfl rfl
theorem d250_1 : decode cX12_sheet 1 = .ok (.iconst 0, 1) := by decide +kernel
theorem s250_1 {d : Nat} {st : List Value} {σ : am_I} {ρ : am_R} {g : am_J} {τ : am_T} {Q : am_Q} {x0 x1 x2 x3 x4 : Value} : AW d 250 1 [x0, x1, x2, x3, x4] (st) σ ρ g τ Q = AW d 250 2 [x0, x1, x2, x3, x4] (.int 0 :: st) σ ρ g τ Q := aw_lc m250 d250_1 rfl rfl rfl
theorem d250_2 : decode cX12_sheet 2 = .ok (.iconst 3, 1) := by decide +kernel
theorem s250_2 {d : Nat} {st : List Value} {σ : am_I} {ρ : am_R} {g : am_J} {τ : am_T} {Q : am_Q} {x0 x1 x2 x3 x4 : Value} : AW d 250 2 [x0, x1, x2, x3, x4] (st) σ ρ g τ Q = AW d 250 3 [x0, x1, x2, x3, x4] (.int 3 :: st) σ ρ g τ Q := aw_lc m250 d250_2 rfl rfl rfl
theorem d250_3 : decode cX12_sheet 3 = .ok (.invokestatic 194, 3) := by decide +kernel
theorem s250_3 {d : Nat} {st : List Value} {σ : am_I} {ρ : am_R} {g : am_J} {τ : am_T} {Q : am_Q} {x0 x1 x2 x3 x4 : Value} {p0 : Int32} {p1 : Int32} {p2 : Int32} (hs : st.length ≤ 4) : AW (d + 1) 250 3 [x0, x1, x2, x3, x4] (.int p2 :: .int p1 :: .int p0 :: st) σ ρ g τ Q = AW d 165 0 [.int p0, .int p1, .int p2] [] σ ρ g τ (fun r9 σ ρ g τ => AW (d + 1) 250 6 [x0, x1, x2, x3, x4] (r9.toList ++ st) σ ρ g τ Q) := aw_cs m250 d250_3 rfl (by simp only [List.length_cons]; omega) rfl rfl en165 ok165 rfl hs
theorem d250_6 : decode cX12_sheet 6 = .ok (.ifCond .eq 22, 3) := by decide +kernel
theorem s250_6 {d : Nat} {st : List Value} {σ : am_I} {ρ : am_R} {g : am_J} {τ : am_T} {Q : am_Q} {x0 x1 x2 x3 x4 : Value} {v : Int32} : AW d 250 6 [x0, x1, x2, x3, x4] (.int v :: st) σ ρ g τ Q = if v = 0 then AW d 250 28 [x0, x1, x2, x3, x4] (st) σ ρ g τ Q else AW d 250 9 [x0, x1, x2, x3, x4] (st) σ ρ g τ Q := aw_br m250 d250_6 rfl rfl rfl
theorem d250_9 : decode cX12_sheet 9 = .ok (.iload_n 2, 1) := by decide +kernel
theorem s250_9 {d : Nat} {st : List Value} {σ : am_I} {ρ : am_R} {g : am_J} {τ : am_T} {Q : am_Q} {x0 x1 x3 x4 : Value} {v : Int32} : AW d 250 9 [x0, x1, .int v, x3, x4] (st) σ ρ g τ Q = AW d 250 10 [x0, x1, .int v, x3, x4] (.int v :: st) σ ρ g τ Q := aw_lc m250 d250_9 rfl rfl rfl
theorem d250_10 : decode cX12_sheet 10 = .ok (.iconst (-1), 1) := by decide +kernel
theorem s250_10 {d : Nat} {st : List Value} {σ : am_I} {ρ : am_R} {g : am_J} {τ : am_T} {Q : am_Q} {x0 x1 x2 x3 x4 : Value} : AW d 250 10 [x0, x1, x2, x3, x4] (st) σ ρ g τ Q = AW d 250 11 [x0, x1, x2, x3, x4] (.int (-1) :: st) σ ρ g τ Q := aw_lc m250 d250_10 rfl rfl rfl
theorem d250_11 : decode cX12_sheet 11 = .ok (.iconst 4, 1) := by decide +kernel
theorem s250_11 {d : Nat} {st : List Value} {σ : am_I} {ρ : am_R} {g : am_J} {τ : am_T} {Q : am_Q} {x0 x1 x2 x3 x4 : Value} : AW d 250 11 [x0, x1, x2, x3, x4] (st) σ ρ g τ Q = AW d 250 12 [x0, x1, x2, x3, x4] (.int 4 :: st) σ ρ g τ Q := aw_lc m250 d250_11 rfl rfl rfl
theorem d250_12 : decode cX12_sheet 12 = .ok (.invokestatic 194, 3) := by decide +kernel
theorem s250_12 {d : Nat} {st : List Value} {σ : am_I} {ρ : am_R} {g : am_J} {τ : am_T} {Q : am_Q} {x0 x1 x2 x3 x4 : Value} {p0 : Int32} {p1 : Int32} {p2 : Int32} (hs : st.length ≤ 4) : AW (d + 1) 250 12 [x0, x1, x2, x3, x4] (.int p2 :: .int p1 :: .int p0 :: st) σ ρ g τ Q = AW d 165 0 [.int p0, .int p1, .int p2] [] σ ρ g τ (fun r9 σ ρ g τ => AW (d + 1) 250 15 [x0, x1, x2, x3, x4] (r9.toList ++ st) σ ρ g τ Q) := aw_cs m250 d250_12 rfl (by simp only [List.length_cons]; omega) rfl rfl en165 ok165 rfl hs
theorem d250_15 : decode cX12_sheet 15 = .ok (.ifCond .eq 13, 3) := by decide +kernel
theorem s250_15 {d : Nat} {st : List Value} {σ : am_I} {ρ : am_R} {g : am_J} {τ : am_T} {Q : am_Q} {x0 x1 x2 x3 x4 : Value} {v : Int32} : AW d 250 15 [x0, x1, x2, x3, x4] (.int v :: st) σ ρ g τ Q = if v = 0 then AW d 250 28 [x0, x1, x2, x3, x4] (st) σ ρ g τ Q else AW d 250 18 [x0, x1, x2, x3, x4] (st) σ ρ g τ Q := aw_br m250 d250_15 rfl rfl rfl
theorem d250_18 : decode cX12_sheet 18 = .ok (.iload_n 2, 1) := by decide +kernel
theorem s250_18 {d : Nat} {st : List Value} {σ : am_I} {ρ : am_R} {g : am_J} {τ : am_T} {Q : am_Q} {x0 x1 x3 x4 : Value} {v : Int32} : AW d 250 18 [x0, x1, .int v, x3, x4] (st) σ ρ g τ Q = AW d 250 19 [x0, x1, .int v, x3, x4] (.int v :: st) σ ρ g τ Q := aw_lc m250 d250_18 rfl rfl rfl
theorem d250_19 : decode cX12_sheet 19 = .ok (.ifCond .lt 11, 3) := by decide +kernel
theorem s250_19 {d : Nat} {st : List Value} {σ : am_I} {ρ : am_R} {g : am_J} {τ : am_T} {Q : am_Q} {x0 x1 x2 x3 x4 : Value} {v : Int32} : AW d 250 19 [x0, x1, x2, x3, x4] (.int v :: st) σ ρ g τ Q = if v < 0 then AW d 250 30 [x0, x1, x2, x3, x4] (st) σ ρ g τ Q else AW d 250 22 [x0, x1, x2, x3, x4] (st) σ ρ g τ Q := aw_br m250 d250_19 rfl rfl rfl
theorem d250_22 : decode cX12_sheet 22 = .ok (.iload_n 3, 1) := by decide +kernel
theorem s250_22 {d : Nat} {st : List Value} {σ : am_I} {ρ : am_R} {g : am_J} {τ : am_T} {Q : am_Q} {x0 x1 x2 x4 : Value} {v : Int32} : AW d 250 22 [x0, x1, x2, .int v, x4] (st) σ ρ g τ Q = AW d 250 23 [x0, x1, x2, .int v, x4] (.int v :: st) σ ρ g τ Q := aw_lc m250 d250_22 rfl rfl rfl
theorem d250_23 : decode cX12_sheet 23 = .ok (.bipush 40, 2) := by decide +kernel
theorem s250_23 {d : Nat} {st : List Value} {σ : am_I} {ρ : am_R} {g : am_J} {τ : am_T} {Q : am_Q} {x0 x1 x2 x3 x4 : Value} : AW d 250 23 [x0, x1, x2, x3, x4] (st) σ ρ g τ Q = AW d 250 25 [x0, x1, x2, x3, x4] (.int 40 :: st) σ ρ g τ Q := aw_lc m250 d250_23 rfl rfl rfl
theorem d250_25 : decode cX12_sheet 25 = .ok (.if_icmp .le 5, 3) := by decide +kernel
theorem s250_25 {d : Nat} {st : List Value} {σ : am_I} {ρ : am_R} {g : am_J} {τ : am_T} {Q : am_Q} {x0 x1 x2 x3 x4 : Value} {v w : Int32} : AW d 250 25 [x0, x1, x2, x3, x4] (.int w :: .int v :: st) σ ρ g τ Q = if v ≤ w then AW d 250 30 [x0, x1, x2, x3, x4] (st) σ ρ g τ Q else AW d 250 28 [x0, x1, x2, x3, x4] (st) σ ρ g τ Q := aw_br m250 d250_25 rfl rfl rfl
theorem d250_28 : decode cX12_sheet 28 = .ok (.iconst (-1), 1) := by decide +kernel
theorem s250_28 {d : Nat} {st : List Value} {σ : am_I} {ρ : am_R} {g : am_J} {τ : am_T} {Q : am_Q} {x0 x1 x2 x3 x4 : Value} : AW d 250 28 [x0, x1, x2, x3, x4] (st) σ ρ g τ Q = AW d 250 29 [x0, x1, x2, x3, x4] (.int (-1) :: st) σ ρ g τ Q := aw_lc m250 d250_28 rfl rfl rfl
theorem d250_29 : decode cX12_sheet 29 = .ok (.ireturn, 1) := by decide +kernel
theorem s250_29 {d : Nat} {σ : am_I} {ρ : am_R} {g : am_J} {τ : am_T} {Q : am_Q} {x0 x1 x2 x3 x4 : Value} {v : Int32} : AW d 250 29 [x0, x1, x2, x3, x4] ([.int v]) σ ρ g τ Q = Q (some (.int v)) σ ρ g τ := aw_ri m250 d250_29 rfl
theorem d250_30 : decode cX12_sheet 30 = .ok (.iload_n 2, 1) := by decide +kernel
theorem s250_30 {d : Nat} {st : List Value} {σ : am_I} {ρ : am_R} {g : am_J} {τ : am_T} {Q : am_Q} {x0 x1 x3 x4 : Value} {v : Int32} : AW d 250 30 [x0, x1, .int v, x3, x4] (st) σ ρ g τ Q = AW d 250 31 [x0, x1, .int v, x3, x4] (.int v :: st) σ ρ g τ Q := aw_lc m250 d250_30 rfl rfl rfl
theorem d250_31 : decode cX12_sheet 31 = .ok (.ifCond .lt 10, 3) := by decide +kernel
theorem s250_31 {d : Nat} {st : List Value} {σ : am_I} {ρ : am_R} {g : am_J} {τ : am_T} {Q : am_Q} {x0 x1 x2 x3 x4 : Value} {v : Int32} : AW d 250 31 [x0, x1, x2, x3, x4] (.int v :: st) σ ρ g τ Q = if v < 0 then AW d 250 41 [x0, x1, x2, x3, x4] (st) σ ρ g τ Q else AW d 250 34 [x0, x1, x2, x3, x4] (st) σ ρ g τ Q := aw_br m250 d250_31 rfl rfl rfl
theorem d250_34 : decode cX12_sheet 34 = .ok (.iload_n 3, 1) := by decide +kernel
theorem s250_34 {d : Nat} {st : List Value} {σ : am_I} {ρ : am_R} {g : am_J} {τ : am_T} {Q : am_Q} {x0 x1 x2 x4 : Value} {v : Int32} : AW d 250 34 [x0, x1, x2, .int v, x4] (st) σ ρ g τ Q = AW d 250 35 [x0, x1, x2, .int v, x4] (.int v :: st) σ ρ g τ Q := aw_lc m250 d250_34 rfl rfl rfl
theorem d250_35 : decode cX12_sheet 35 = .ok (.ifCond .ge 6, 3) := by decide +kernel
theorem s250_35 {d : Nat} {st : List Value} {σ : am_I} {ρ : am_R} {g : am_J} {τ : am_T} {Q : am_Q} {x0 x1 x2 x3 x4 : Value} {v : Int32} : AW d 250 35 [x0, x1, x2, x3, x4] (.int v :: st) σ ρ g τ Q = if 0 ≤ v then AW d 250 41 [x0, x1, x2, x3, x4] (st) σ ρ g τ Q else AW d 250 38 [x0, x1, x2, x3, x4] (st) σ ρ g τ Q := aw_br m250 d250_35 rfl rfl rfl
theorem d250_38 : decode cX12_sheet 38 = .ok (.bipush (-14), 2) := by decide +kernel
theorem s250_38 {d : Nat} {st : List Value} {σ : am_I} {ρ : am_R} {g : am_J} {τ : am_T} {Q : am_Q} {x0 x1 x2 x3 x4 : Value} : AW d 250 38 [x0, x1, x2, x3, x4] (st) σ ρ g τ Q = AW d 250 40 [x0, x1, x2, x3, x4] (.int (-14) :: st) σ ρ g τ Q := aw_lc m250 d250_38 rfl rfl rfl
theorem d250_40 : decode cX12_sheet 40 = .ok (.ireturn, 1) := by decide +kernel
theorem s250_40 {d : Nat} {σ : am_I} {ρ : am_R} {g : am_J} {τ : am_T} {Q : am_Q} {x0 x1 x2 x3 x4 : Value} {v : Int32} : AW d 250 40 [x0, x1, x2, x3, x4] ([.int v]) σ ρ g τ Q = Q (some (.int v)) σ ρ g τ := aw_ri m250 d250_40 rfl
theorem d250_41 : decode cX12_sheet 41 = .ok (.aload_n 0, 1) := by decide +kernel
theorem s250_41 {d : Nat} {st : List Value} {σ : am_I} {ρ : am_R} {g : am_J} {τ : am_T} {Q : am_Q} {x1 x2 x3 x4 : Value} {v : Nat} : AW d 250 41 [.ref v, x1, x2, x3, x4] (st) σ ρ g τ Q = AW d 250 42 [.ref v, x1, x2, x3, x4] (.ref v :: st) σ ρ g τ Q := aw_lc m250 d250_41 rfl rfl rfl
theorem d250_42 : decode cX12_sheet 42 = .ok (.getfield 151, 3) := by decide +kernel
theorem s250_42 {d : Nat} {st : List Value} {σ : am_I} {ρ : am_R} {g : am_J} {τ : am_T} {Q : am_Q} {x0 x1 x2 x3 x4 : Value} {a : Nat} (ht : τ.1 a = 12) : AW d 250 42 [x0, x1, x2, x3, x4] (.ref a :: st) σ ρ g τ Q = AW d 250 45 [x0, x1, x2, x3, x4] (va_rf (ρ a 49) :: st) σ ρ g τ Q := aw_gr m250 d250_42 rfl rfl rfl ht
theorem d250_45 : decode cX12_sheet 45 = .ok (.iload_n 1, 1) := by decide +kernel
theorem s250_45 {d : Nat} {st : List Value} {σ : am_I} {ρ : am_R} {g : am_J} {τ : am_T} {Q : am_Q} {x0 x2 x3 x4 : Value} {v : Int32} : AW d 250 45 [x0, .int v, x2, x3, x4] (st) σ ρ g τ Q = AW d 250 46 [x0, .int v, x2, x3, x4] (.int v :: st) σ ρ g τ Q := aw_lc m250 d250_45 rfl rfl rfl
theorem d250_46 : decode cX12_sheet 46 = .ok (.iload_n 2, 1) := by decide +kernel
theorem s250_46 {d : Nat} {st : List Value} {σ : am_I} {ρ : am_R} {g : am_J} {τ : am_T} {Q : am_Q} {x0 x1 x3 x4 : Value} {v : Int32} : AW d 250 46 [x0, x1, .int v, x3, x4] (st) σ ρ g τ Q = AW d 250 47 [x0, x1, .int v, x3, x4] (.int v :: st) σ ρ g τ Q := aw_lc m250 d250_46 rfl rfl rfl
theorem d250_47 : decode cX12_sheet 47 = .ok (.iastore, 1) := by decide +kernel
theorem s250_47 {d : Nat} {st : List Value} {σ : am_I} {ρ : am_R} {g : am_J} {τ : am_T} {Q : am_Q} {x0 x1 x2 x3 x4 : Value} {a : Nat} {j v : Int32} (ht : τ.1 a = 15) (ha : a < am_BG) (hj : am_inb j (τ.2.1 a) = true) : AW d 250 47 [x0, x1, x2, x3, x4] (.int v :: .int j :: .ref a :: st) σ ρ g τ Q = AW d 250 48 [x0, x1, x2, x3, x4] (st) (am_u σ a j.toNatClampNeg v) ρ g τ Q := aw_ias m250 d250_47 rfl ht ha hj
theorem d250_48 : decode cX12_sheet 48 = .ok (.aload_n 0, 1) := by decide +kernel
theorem s250_48 {d : Nat} {st : List Value} {σ : am_I} {ρ : am_R} {g : am_J} {τ : am_T} {Q : am_Q} {x1 x2 x3 x4 : Value} {v : Nat} : AW d 250 48 [.ref v, x1, x2, x3, x4] (st) σ ρ g τ Q = AW d 250 49 [.ref v, x1, x2, x3, x4] (.ref v :: st) σ ρ g τ Q := aw_lc m250 d250_48 rfl rfl rfl
theorem d250_49 : decode cX12_sheet 49 = .ok (.getfield 154, 3) := by decide +kernel
theorem s250_49 {d : Nat} {st : List Value} {σ : am_I} {ρ : am_R} {g : am_J} {τ : am_T} {Q : am_Q} {x0 x1 x2 x3 x4 : Value} {a : Nat} (ht : τ.1 a = 12) : AW d 250 49 [x0, x1, x2, x3, x4] (.ref a :: st) σ ρ g τ Q = AW d 250 52 [x0, x1, x2, x3, x4] (va_rf (ρ a 50) :: st) σ ρ g τ Q := aw_gr m250 d250_49 rfl rfl rfl ht
theorem d250_52 : decode cX12_sheet 52 = .ok (.iload_n 1, 1) := by decide +kernel
theorem s250_52 {d : Nat} {st : List Value} {σ : am_I} {ρ : am_R} {g : am_J} {τ : am_T} {Q : am_Q} {x0 x2 x3 x4 : Value} {v : Int32} : AW d 250 52 [x0, .int v, x2, x3, x4] (st) σ ρ g τ Q = AW d 250 53 [x0, .int v, x2, x3, x4] (.int v :: st) σ ρ g τ Q := aw_lc m250 d250_52 rfl rfl rfl
theorem d250_53 : decode cX12_sheet 53 = .ok (.iload_n 2, 1) := by decide +kernel
theorem s250_53 {d : Nat} {st : List Value} {σ : am_I} {ρ : am_R} {g : am_J} {τ : am_T} {Q : am_Q} {x0 x1 x3 x4 : Value} {v : Int32} : AW d 250 53 [x0, x1, .int v, x3, x4] (st) σ ρ g τ Q = AW d 250 54 [x0, x1, .int v, x3, x4] (.int v :: st) σ ρ g τ Q := aw_lc m250 d250_53 rfl rfl rfl
theorem d250_54 : decode cX12_sheet 54 = .ok (.ifCond .ge 7, 3) := by decide +kernel
theorem s250_54 {d : Nat} {st : List Value} {σ : am_I} {ρ : am_R} {g : am_J} {τ : am_T} {Q : am_Q} {x0 x1 x2 x3 x4 : Value} {v : Int32} : AW d 250 54 [x0, x1, x2, x3, x4] (.int v :: st) σ ρ g τ Q = if 0 ≤ v then AW d 250 61 [x0, x1, x2, x3, x4] (st) σ ρ g τ Q else AW d 250 57 [x0, x1, x2, x3, x4] (st) σ ρ g τ Q := aw_br m250 d250_54 rfl rfl rfl
theorem d250_57 : decode cX12_sheet 57 = .ok (.iconst 0, 1) := by decide +kernel
theorem s250_57 {d : Nat} {st : List Value} {σ : am_I} {ρ : am_R} {g : am_J} {τ : am_T} {Q : am_Q} {x0 x1 x2 x3 x4 : Value} : AW d 250 57 [x0, x1, x2, x3, x4] (st) σ ρ g τ Q = AW d 250 58 [x0, x1, x2, x3, x4] (.int 0 :: st) σ ρ g τ Q := aw_lc m250 d250_57 rfl rfl rfl
theorem d250_58 : decode cX12_sheet 58 = .ok (.goto 4, 3) := by decide +kernel
theorem s250_58 {d : Nat} {st : List Value} {σ : am_I} {ρ : am_R} {g : am_J} {τ : am_T} {Q : am_Q} {x0 x1 x2 x3 x4 : Value} : AW d 250 58 [x0, x1, x2, x3, x4] (st) σ ρ g τ Q = AW d 250 62 [x0, x1, x2, x3, x4] (st) σ ρ g τ Q := aw_lc m250 d250_58 rfl rfl rfl
theorem d250_61 : decode cX12_sheet 61 = .ok (.iload_n 3, 1) := by decide +kernel
theorem s250_61 {d : Nat} {st : List Value} {σ : am_I} {ρ : am_R} {g : am_J} {τ : am_T} {Q : am_Q} {x0 x1 x2 x4 : Value} {v : Int32} : AW d 250 61 [x0, x1, x2, .int v, x4] (st) σ ρ g τ Q = AW d 250 62 [x0, x1, x2, .int v, x4] (.int v :: st) σ ρ g τ Q := aw_lc m250 d250_61 rfl rfl rfl
theorem d250_62 : decode cX12_sheet 62 = .ok (.iastore, 1) := by decide +kernel
theorem s250_62 {d : Nat} {st : List Value} {σ : am_I} {ρ : am_R} {g : am_J} {τ : am_T} {Q : am_Q} {x0 x1 x2 x3 x4 : Value} {a : Nat} {j v : Int32} (ht : τ.1 a = 15) (ha : a < am_BG) (hj : am_inb j (τ.2.1 a) = true) : AW d 250 62 [x0, x1, x2, x3, x4] (.int v :: .int j :: .ref a :: st) σ ρ g τ Q = AW d 250 63 [x0, x1, x2, x3, x4] (st) (am_u σ a j.toNatClampNeg v) ρ g τ Q := aw_ias m250 d250_62 rfl ht ha hj
theorem d250_63 : decode cX12_sheet 63 = .ok (.iconst 0, 1) := by decide +kernel
theorem s250_63 {d : Nat} {st : List Value} {σ : am_I} {ρ : am_R} {g : am_J} {τ : am_T} {Q : am_Q} {x0 x1 x2 x3 x4 : Value} : AW d 250 63 [x0, x1, x2, x3, x4] (st) σ ρ g τ Q = AW d 250 64 [x0, x1, x2, x3, x4] (.int 0 :: st) σ ρ g τ Q := aw_lc m250 d250_63 rfl rfl rfl
theorem d250_64 : decode cX12_sheet 64 = .ok (.istore 4, 2) := by decide +kernel
theorem s250_64 {d : Nat} {st : List Value} {σ : am_I} {ρ : am_R} {g : am_J} {τ : am_T} {Q : am_Q} {x0 x1 x2 x4 : Value} {v : Int32} {u : Int32} : AW d 250 64 [x0, x1, x2, .int u, x4] (.int v :: st) σ ρ g τ Q = AW d 250 66 [x0, x1, x2, .int u, .int v] (st) σ ρ g τ Q := aw_lc m250 d250_64 rfl rfl rfl
theorem d250_66 : decode cX12_sheet 66 = .ok (.iload 4, 2) := by decide +kernel
theorem s250_66 {d : Nat} {st : List Value} {σ : am_I} {ρ : am_R} {g : am_J} {τ : am_T} {Q : am_Q} {x0 x1 x2 x3 : Value} {v : Int32} : AW d 250 66 [x0, x1, x2, x3, .int v] (st) σ ρ g τ Q = AW d 250 68 [x0, x1, x2, x3, .int v] (.int v :: st) σ ρ g τ Q := aw_lc m250 d250_66 rfl rfl rfl
theorem d250_68 : decode cX12_sheet 68 = .ok (.bipush 40, 2) := by decide +kernel
theorem s250_68 {d : Nat} {st : List Value} {σ : am_I} {ρ : am_R} {g : am_J} {τ : am_T} {Q : am_Q} {x0 x1 x2 x3 x4 : Value} : AW d 250 68 [x0, x1, x2, x3, x4] (st) σ ρ g τ Q = AW d 250 70 [x0, x1, x2, x3, x4] (.int 40 :: st) σ ρ g τ Q := aw_lc m250 d250_68 rfl rfl rfl
theorem d250_70 : decode cX12_sheet 70 = .ok (.if_icmp .ge 22, 3) := by decide +kernel
theorem s250_70 {d : Nat} {st : List Value} {σ : am_I} {ρ : am_R} {g : am_J} {τ : am_T} {Q : am_Q} {x0 x1 x2 x3 x4 : Value} {v w : Int32} : AW d 250 70 [x0, x1, x2, x3, x4] (.int w :: .int v :: st) σ ρ g τ Q = if w ≤ v then AW d 250 92 [x0, x1, x2, x3, x4] (st) σ ρ g τ Q else AW d 250 73 [x0, x1, x2, x3, x4] (st) σ ρ g τ Q := aw_br m250 d250_70 rfl rfl rfl
theorem d250_73 : decode cX12_sheet 73 = .ok (.aload_n 0, 1) := by decide +kernel
theorem s250_73 {d : Nat} {st : List Value} {σ : am_I} {ρ : am_R} {g : am_J} {τ : am_T} {Q : am_Q} {x1 x2 x3 x4 : Value} {v : Nat} : AW d 250 73 [.ref v, x1, x2, x3, x4] (st) σ ρ g τ Q = AW d 250 74 [.ref v, x1, x2, x3, x4] (.ref v :: st) σ ρ g τ Q := aw_lc m250 d250_73 rfl rfl rfl
theorem d250_74 : decode cX12_sheet 74 = .ok (.getfield 147, 3) := by decide +kernel
theorem s250_74 {d : Nat} {st : List Value} {σ : am_I} {ρ : am_R} {g : am_J} {τ : am_T} {Q : am_Q} {x0 x1 x2 x3 x4 : Value} {a : Nat} (ht : τ.1 a = 12) : AW d 250 74 [x0, x1, x2, x3, x4] (.ref a :: st) σ ρ g τ Q = AW d 250 77 [x0, x1, x2, x3, x4] (va_rf (ρ a 48) :: st) σ ρ g τ Q := aw_gr m250 d250_74 rfl rfl rfl ht
theorem d250_77 : decode cX12_sheet 77 = .ok (.bipush 40, 2) := by decide +kernel
theorem s250_77 {d : Nat} {st : List Value} {σ : am_I} {ρ : am_R} {g : am_J} {τ : am_T} {Q : am_Q} {x0 x1 x2 x3 x4 : Value} : AW d 250 77 [x0, x1, x2, x3, x4] (st) σ ρ g τ Q = AW d 250 79 [x0, x1, x2, x3, x4] (.int 40 :: st) σ ρ g τ Q := aw_lc m250 d250_77 rfl rfl rfl
theorem d250_79 : decode cX12_sheet 79 = .ok (.iload_n 1, 1) := by decide +kernel
theorem s250_79 {d : Nat} {st : List Value} {σ : am_I} {ρ : am_R} {g : am_J} {τ : am_T} {Q : am_Q} {x0 x2 x3 x4 : Value} {v : Int32} : AW d 250 79 [x0, .int v, x2, x3, x4] (st) σ ρ g τ Q = AW d 250 80 [x0, .int v, x2, x3, x4] (.int v :: st) σ ρ g τ Q := aw_lc m250 d250_79 rfl rfl rfl
theorem d250_80 : decode cX12_sheet 80 = .ok (.imul, 1) := by decide +kernel
theorem s250_80 {d : Nat} {st : List Value} {σ : am_I} {ρ : am_R} {g : am_J} {τ : am_T} {Q : am_Q} {x0 x1 x2 x3 x4 : Value} {v w : Int32} : AW d 250 80 [x0, x1, x2, x3, x4] (.int w :: .int v :: st) σ ρ g τ Q = AW d 250 81 [x0, x1, x2, x3, x4] (.int (v * w) :: st) σ ρ g τ Q := aw_lc m250 d250_80 rfl rfl rfl
theorem d250_81 : decode cX12_sheet 81 = .ok (.iload 4, 2) := by decide +kernel
theorem s250_81 {d : Nat} {st : List Value} {σ : am_I} {ρ : am_R} {g : am_J} {τ : am_T} {Q : am_Q} {x0 x1 x2 x3 : Value} {v : Int32} : AW d 250 81 [x0, x1, x2, x3, .int v] (st) σ ρ g τ Q = AW d 250 83 [x0, x1, x2, x3, .int v] (.int v :: st) σ ρ g τ Q := aw_lc m250 d250_81 rfl rfl rfl
theorem d250_83 : decode cX12_sheet 83 = .ok (.iadd, 1) := by decide +kernel
theorem s250_83 {d : Nat} {st : List Value} {σ : am_I} {ρ : am_R} {g : am_J} {τ : am_T} {Q : am_Q} {x0 x1 x2 x3 x4 : Value} {v w : Int32} : AW d 250 83 [x0, x1, x2, x3, x4] (.int w :: .int v :: st) σ ρ g τ Q = AW d 250 84 [x0, x1, x2, x3, x4] (.int (v + w) :: st) σ ρ g τ Q := aw_lc m250 d250_83 rfl rfl rfl
theorem d250_84 : decode cX12_sheet 84 = .ok (.lconst 0, 1) := by decide +kernel
theorem s250_84 {d : Nat} {st : List Value} {σ : am_I} {ρ : am_R} {g : am_J} {τ : am_T} {Q : am_Q} {x0 x1 x2 x3 x4 : Value} : AW d 250 84 [x0, x1, x2, x3, x4] (st) σ ρ g τ Q = AW d 250 85 [x0, x1, x2, x3, x4] (.long 0 :: st) σ ρ g τ Q := aw_lc m250 d250_84 rfl rfl rfl
theorem d250_85 : decode cX12_sheet 85 = .ok (.lastore, 1) := by decide +kernel
theorem s250_85 {d : Nat} {st : List Value} {σ : am_I} {ρ : am_R} {g : am_J} {τ : am_T} {Q : am_Q} {x0 x1 x2 x3 x4 : Value} {a : Nat} {j : Int32} {v : Int64} (ht : τ.1 a = 16) (hj : am_inb j (τ.2.1 a) = true) : AW d 250 85 [x0, x1, x2, x3, x4] (.long v :: .int j :: .ref a :: st) σ ρ g τ Q = AW d 250 86 [x0, x1, x2, x3, x4] (st) σ ρ (am_u g a j.toNatClampNeg v) τ Q := aw_las m250 d250_85 rfl ht hj
theorem d250_86 : decode cX12_sheet 86 = .ok (.iinc 4 1, 3) := by decide +kernel
theorem s250_86 {d : Nat} {st : List Value} {σ : am_I} {ρ : am_R} {g : am_J} {τ : am_T} {Q : am_Q} {x0 x1 x2 : Value} {v : Int32} {u : Int32} : AW d 250 86 [x0, x1, x2, .int u, .int v] (st) σ ρ g τ Q = AW d 250 89 [x0, x1, x2, .int u, .int (v + 1)] (st) σ ρ g τ Q := aw_lc m250 d250_86 rfl rfl rfl
theorem d250_89 : decode cX12_sheet 89 = .ok (.goto (-23), 3) := by decide +kernel
theorem s250_89 {d : Nat} {st : List Value} {σ : am_I} {ρ : am_R} {g : am_J} {τ : am_T} {Q : am_Q} {x0 x1 x2 x3 x4 : Value} : AW d 250 89 [x0, x1, x2, x3, x4] (st) σ ρ g τ Q = AW d 250 66 [x0, x1, x2, x3, x4] (st) σ ρ g τ Q := aw_lc m250 d250_89 rfl rfl rfl
theorem d250_92 : decode cX12_sheet 92 = .ok (.iconst 1, 1) := by decide +kernel
theorem s250_92 {d : Nat} {st : List Value} {σ : am_I} {ρ : am_R} {g : am_J} {τ : am_T} {Q : am_Q} {x0 x1 x2 x3 x4 : Value} : AW d 250 92 [x0, x1, x2, x3, x4] (st) σ ρ g τ Q = AW d 250 93 [x0, x1, x2, x3, x4] (.int 1 :: st) σ ρ g τ Q := aw_lc m250 d250_92 rfl rfl rfl
theorem d250_93 : decode cX12_sheet 93 = .ok (.ireturn, 1) := by decide +kernel
theorem s250_93 {d : Nat} {σ : am_I} {ρ : am_R} {g : am_J} {τ : am_T} {Q : am_Q} {x0 x1 x2 x3 x4 : Value} {v : Int32} : AW d 250 93 [x0, x1, x2, x3, x4] ([.int v]) σ ρ g τ Q = Q (some (.int v)) σ ρ g τ := aw_ri m250 d250_93 rfl
theorem d251_0 : decode cX12_put 0 = .ok (.iload_n 1, 1) := by decide +kernel
theorem s251_0 {d : Nat} {st : List Value} {σ : am_I} {ρ : am_R} {g : am_J} {τ : am_T} {Q : am_Q} {x0 x2 x3 : Value} {v : Int32} : AW d 251 0 [x0, .int v, x2, x3] (st) σ ρ g τ Q = AW d 251 1 [x0, .int v, x2, x3] (.int v :: st) σ ρ g τ Q := aw_lc m251 d251_0 rfl rfl rfl
theorem d251_1 : decode cX12_put 1 = .ok (.iconst 0, 1) := by decide +kernel
theorem s251_1 {d : Nat} {st : List Value} {σ : am_I} {ρ : am_R} {g : am_J} {τ : am_T} {Q : am_Q} {x0 x1 x2 x3 : Value} : AW d 251 1 [x0, x1, x2, x3] (st) σ ρ g τ Q = AW d 251 2 [x0, x1, x2, x3] (.int 0 :: st) σ ρ g τ Q := aw_lc m251 d251_1 rfl rfl rfl
theorem d251_2 : decode cX12_put 2 = .ok (.iconst 3, 1) := by decide +kernel
theorem s251_2 {d : Nat} {st : List Value} {σ : am_I} {ρ : am_R} {g : am_J} {τ : am_T} {Q : am_Q} {x0 x1 x2 x3 : Value} : AW d 251 2 [x0, x1, x2, x3] (st) σ ρ g τ Q = AW d 251 3 [x0, x1, x2, x3] (.int 3 :: st) σ ρ g τ Q := aw_lc m251 d251_2 rfl rfl rfl
theorem d251_3 : decode cX12_put 3 = .ok (.invokestatic 194, 3) := by decide +kernel
theorem s251_3 {d : Nat} {st : List Value} {σ : am_I} {ρ : am_R} {g : am_J} {τ : am_T} {Q : am_Q} {x0 x1 x2 x3 : Value} {p0 : Int32} {p1 : Int32} {p2 : Int32} (hs : st.length ≤ 4) : AW (d + 1) 251 3 [x0, x1, x2, x3] (.int p2 :: .int p1 :: .int p0 :: st) σ ρ g τ Q = AW d 165 0 [.int p0, .int p1, .int p2] [] σ ρ g τ (fun r9 σ ρ g τ => AW (d + 1) 251 6 [x0, x1, x2, x3] (r9.toList ++ st) σ ρ g τ Q) := aw_cs m251 d251_3 rfl (by simp only [List.length_cons]; omega) rfl rfl en165 ok165 rfl hs
theorem d251_6 : decode cX12_put 6 = .ok (.ifCond .ne 5, 3) := by decide +kernel
theorem s251_6 {d : Nat} {st : List Value} {σ : am_I} {ρ : am_R} {g : am_J} {τ : am_T} {Q : am_Q} {x0 x1 x2 x3 : Value} {v : Int32} : AW d 251 6 [x0, x1, x2, x3] (.int v :: st) σ ρ g τ Q = if ¬ v = 0 then AW d 251 11 [x0, x1, x2, x3] (st) σ ρ g τ Q else AW d 251 9 [x0, x1, x2, x3] (st) σ ρ g τ Q := aw_br m251 d251_6 rfl rfl rfl
theorem d251_9 : decode cX12_put 9 = .ok (.iconst (-1), 1) := by decide +kernel
theorem s251_9 {d : Nat} {st : List Value} {σ : am_I} {ρ : am_R} {g : am_J} {τ : am_T} {Q : am_Q} {x0 x1 x2 x3 : Value} : AW d 251 9 [x0, x1, x2, x3] (st) σ ρ g τ Q = AW d 251 10 [x0, x1, x2, x3] (.int (-1) :: st) σ ρ g τ Q := aw_lc m251 d251_9 rfl rfl rfl
theorem d251_10 : decode cX12_put 10 = .ok (.ireturn, 1) := by decide +kernel
theorem s251_10 {d : Nat} {σ : am_I} {ρ : am_R} {g : am_J} {τ : am_T} {Q : am_Q} {x0 x1 x2 x3 : Value} {v : Int32} : AW d 251 10 [x0, x1, x2, x3] ([.int v]) σ ρ g τ Q = Q (some (.int v)) σ ρ g τ := aw_ri m251 d251_10 rfl
theorem d251_11 : decode cX12_put 11 = .ok (.aload_n 0, 1) := by decide +kernel
theorem s251_11 {d : Nat} {st : List Value} {σ : am_I} {ρ : am_R} {g : am_J} {τ : am_T} {Q : am_Q} {x1 x2 x3 : Value} {v : Nat} : AW d 251 11 [.ref v, x1, x2, x3] (st) σ ρ g τ Q = AW d 251 12 [.ref v, x1, x2, x3] (.ref v :: st) σ ρ g τ Q := aw_lc m251 d251_11 rfl rfl rfl
theorem d251_12 : decode cX12_put 12 = .ok (.getfield 151, 3) := by decide +kernel
theorem s251_12 {d : Nat} {st : List Value} {σ : am_I} {ρ : am_R} {g : am_J} {τ : am_T} {Q : am_Q} {x0 x1 x2 x3 : Value} {a : Nat} (ht : τ.1 a = 12) : AW d 251 12 [x0, x1, x2, x3] (.ref a :: st) σ ρ g τ Q = AW d 251 15 [x0, x1, x2, x3] (va_rf (ρ a 49) :: st) σ ρ g τ Q := aw_gr m251 d251_12 rfl rfl rfl ht
theorem d251_15 : decode cX12_put 15 = .ok (.iload_n 1, 1) := by decide +kernel
theorem s251_15 {d : Nat} {st : List Value} {σ : am_I} {ρ : am_R} {g : am_J} {τ : am_T} {Q : am_Q} {x0 x2 x3 : Value} {v : Int32} : AW d 251 15 [x0, .int v, x2, x3] (st) σ ρ g τ Q = AW d 251 16 [x0, .int v, x2, x3] (.int v :: st) σ ρ g τ Q := aw_lc m251 d251_15 rfl rfl rfl
theorem d251_16 : decode cX12_put 16 = .ok (.iaload, 1) := by decide +kernel
theorem s251_16 {d : Nat} {st : List Value} {σ : am_I} {ρ : am_R} {g : am_J} {τ : am_T} {Q : am_Q} {x0 x1 x2 x3 : Value} {a : Nat} {j : Int32} (ht : τ.1 a = 15) (hj : am_inb j (τ.2.1 a) = true) : AW d 251 16 [x0, x1, x2, x3] (.int j :: .ref a :: st) σ ρ g τ Q = AW d 251 17 [x0, x1, x2, x3] (.int (σ a j.toNatClampNeg) :: st) σ ρ g τ Q := aw_ial m251 d251_16 rfl ht hj
theorem d251_17 : decode cX12_put 17 = .ok (.ifCond .ge 6, 3) := by decide +kernel
theorem s251_17 {d : Nat} {st : List Value} {σ : am_I} {ρ : am_R} {g : am_J} {τ : am_T} {Q : am_Q} {x0 x1 x2 x3 : Value} {v : Int32} : AW d 251 17 [x0, x1, x2, x3] (.int v :: st) σ ρ g τ Q = if 0 ≤ v then AW d 251 23 [x0, x1, x2, x3] (st) σ ρ g τ Q else AW d 251 20 [x0, x1, x2, x3] (st) σ ρ g τ Q := aw_br m251 d251_17 rfl rfl rfl
theorem d251_20 : decode cX12_put 20 = .ok (.bipush (-11), 2) := by decide +kernel
theorem s251_20 {d : Nat} {st : List Value} {σ : am_I} {ρ : am_R} {g : am_J} {τ : am_T} {Q : am_Q} {x0 x1 x2 x3 : Value} : AW d 251 20 [x0, x1, x2, x3] (st) σ ρ g τ Q = AW d 251 22 [x0, x1, x2, x3] (.int (-11) :: st) σ ρ g τ Q := aw_lc m251 d251_20 rfl rfl rfl
theorem d251_22 : decode cX12_put 22 = .ok (.ireturn, 1) := by decide +kernel
theorem s251_22 {d : Nat} {σ : am_I} {ρ : am_R} {g : am_J} {τ : am_T} {Q : am_Q} {x0 x1 x2 x3 : Value} {v : Int32} : AW d 251 22 [x0, x1, x2, x3] ([.int v]) σ ρ g τ Q = Q (some (.int v)) σ ρ g τ := aw_ri m251 d251_22 rfl
theorem d251_23 : decode cX12_put 23 = .ok (.iload_n 2, 1) := by decide +kernel
theorem s251_23 {d : Nat} {st : List Value} {σ : am_I} {ρ : am_R} {g : am_J} {τ : am_T} {Q : am_Q} {x0 x1 x3 : Value} {v : Int32} : AW d 251 23 [x0, x1, .int v, x3] (st) σ ρ g τ Q = AW d 251 24 [x0, x1, .int v, x3] (.int v :: st) σ ρ g τ Q := aw_lc m251 d251_23 rfl rfl rfl
theorem d251_24 : decode cX12_put 24 = .ok (.iconst 0, 1) := by decide +kernel
theorem s251_24 {d : Nat} {st : List Value} {σ : am_I} {ρ : am_R} {g : am_J} {τ : am_T} {Q : am_Q} {x0 x1 x2 x3 : Value} : AW d 251 24 [x0, x1, x2, x3] (st) σ ρ g τ Q = AW d 251 25 [x0, x1, x2, x3] (.int 0 :: st) σ ρ g τ Q := aw_lc m251 d251_24 rfl rfl rfl
theorem d251_25 : decode cX12_put 25 = .ok (.aload_n 0, 1) := by decide +kernel
theorem s251_25 {d : Nat} {st : List Value} {σ : am_I} {ρ : am_R} {g : am_J} {τ : am_T} {Q : am_Q} {x1 x2 x3 : Value} {v : Nat} : AW d 251 25 [.ref v, x1, x2, x3] (st) σ ρ g τ Q = AW d 251 26 [.ref v, x1, x2, x3] (.ref v :: st) σ ρ g τ Q := aw_lc m251 d251_25 rfl rfl rfl
theorem d251_26 : decode cX12_put 26 = .ok (.getfield 154, 3) := by decide +kernel
theorem s251_26 {d : Nat} {st : List Value} {σ : am_I} {ρ : am_R} {g : am_J} {τ : am_T} {Q : am_Q} {x0 x1 x2 x3 : Value} {a : Nat} (ht : τ.1 a = 12) : AW d 251 26 [x0, x1, x2, x3] (.ref a :: st) σ ρ g τ Q = AW d 251 29 [x0, x1, x2, x3] (va_rf (ρ a 50) :: st) σ ρ g τ Q := aw_gr m251 d251_26 rfl rfl rfl ht
theorem d251_29 : decode cX12_put 29 = .ok (.iload_n 1, 1) := by decide +kernel
theorem s251_29 {d : Nat} {st : List Value} {σ : am_I} {ρ : am_R} {g : am_J} {τ : am_T} {Q : am_Q} {x0 x2 x3 : Value} {v : Int32} : AW d 251 29 [x0, .int v, x2, x3] (st) σ ρ g τ Q = AW d 251 30 [x0, .int v, x2, x3] (.int v :: st) σ ρ g τ Q := aw_lc m251 d251_29 rfl rfl rfl
theorem d251_30 : decode cX12_put 30 = .ok (.iaload, 1) := by decide +kernel
theorem s251_30 {d : Nat} {st : List Value} {σ : am_I} {ρ : am_R} {g : am_J} {τ : am_T} {Q : am_Q} {x0 x1 x2 x3 : Value} {a : Nat} {j : Int32} (ht : τ.1 a = 15) (hj : am_inb j (τ.2.1 a) = true) : AW d 251 30 [x0, x1, x2, x3] (.int j :: .ref a :: st) σ ρ g τ Q = AW d 251 31 [x0, x1, x2, x3] (.int (σ a j.toNatClampNeg) :: st) σ ρ g τ Q := aw_ial m251 d251_30 rfl ht hj
theorem d251_31 : decode cX12_put 31 = .ok (.iconst 1, 1) := by decide +kernel
theorem s251_31 {d : Nat} {st : List Value} {σ : am_I} {ρ : am_R} {g : am_J} {τ : am_T} {Q : am_Q} {x0 x1 x2 x3 : Value} : AW d 251 31 [x0, x1, x2, x3] (st) σ ρ g τ Q = AW d 251 32 [x0, x1, x2, x3] (.int 1 :: st) σ ρ g τ Q := aw_lc m251 d251_31 rfl rfl rfl
theorem d251_32 : decode cX12_put 32 = .ok (.isub, 1) := by decide +kernel
theorem s251_32 {d : Nat} {st : List Value} {σ : am_I} {ρ : am_R} {g : am_J} {τ : am_T} {Q : am_Q} {x0 x1 x2 x3 : Value} {v w : Int32} : AW d 251 32 [x0, x1, x2, x3] (.int w :: .int v :: st) σ ρ g τ Q = AW d 251 33 [x0, x1, x2, x3] (.int (v - w) :: st) σ ρ g τ Q := aw_lc m251 d251_32 rfl rfl rfl
theorem d251_33 : decode cX12_put 33 = .ok (.invokestatic 194, 3) := by decide +kernel
theorem s251_33 {d : Nat} {st : List Value} {σ : am_I} {ρ : am_R} {g : am_J} {τ : am_T} {Q : am_Q} {x0 x1 x2 x3 : Value} {p0 : Int32} {p1 : Int32} {p2 : Int32} (hs : st.length ≤ 4) : AW (d + 1) 251 33 [x0, x1, x2, x3] (.int p2 :: .int p1 :: .int p0 :: st) σ ρ g τ Q = AW d 165 0 [.int p0, .int p1, .int p2] [] σ ρ g τ (fun r9 σ ρ g τ => AW (d + 1) 251 36 [x0, x1, x2, x3] (r9.toList ++ st) σ ρ g τ Q) := aw_cs m251 d251_33 rfl (by simp only [List.length_cons]; omega) rfl rfl en165 ok165 rfl hs
theorem d251_36 : decode cX12_put 36 = .ok (.ifCond .ne 6, 3) := by decide +kernel
theorem s251_36 {d : Nat} {st : List Value} {σ : am_I} {ρ : am_R} {g : am_J} {τ : am_T} {Q : am_Q} {x0 x1 x2 x3 : Value} {v : Int32} : AW d 251 36 [x0, x1, x2, x3] (.int v :: st) σ ρ g τ Q = if ¬ v = 0 then AW d 251 42 [x0, x1, x2, x3] (st) σ ρ g τ Q else AW d 251 39 [x0, x1, x2, x3] (st) σ ρ g τ Q := aw_br m251 d251_36 rfl rfl rfl
theorem d251_39 : decode cX12_put 39 = .ok (.bipush (-12), 2) := by decide +kernel
theorem s251_39 {d : Nat} {st : List Value} {σ : am_I} {ρ : am_R} {g : am_J} {τ : am_T} {Q : am_Q} {x0 x1 x2 x3 : Value} : AW d 251 39 [x0, x1, x2, x3] (st) σ ρ g τ Q = AW d 251 41 [x0, x1, x2, x3] (.int (-12) :: st) σ ρ g τ Q := aw_lc m251 d251_39 rfl rfl rfl
theorem d251_41 : decode cX12_put 41 = .ok (.ireturn, 1) := by decide +kernel
theorem s251_41 {d : Nat} {σ : am_I} {ρ : am_R} {g : am_J} {τ : am_T} {Q : am_Q} {x0 x1 x2 x3 : Value} {v : Int32} : AW d 251 41 [x0, x1, x2, x3] ([.int v]) σ ρ g τ Q = Q (some (.int v)) σ ρ g τ := aw_ri m251 d251_41 rfl
theorem d251_42 : decode cX12_put 42 = .ok (.aload_n 0, 1) := by decide +kernel
theorem s251_42 {d : Nat} {st : List Value} {σ : am_I} {ρ : am_R} {g : am_J} {τ : am_T} {Q : am_Q} {x1 x2 x3 : Value} {v : Nat} : AW d 251 42 [.ref v, x1, x2, x3] (st) σ ρ g τ Q = AW d 251 43 [.ref v, x1, x2, x3] (.ref v :: st) σ ρ g τ Q := aw_lc m251 d251_42 rfl rfl rfl
theorem d251_43 : decode cX12_put 43 = .ok (.getfield 147, 3) := by decide +kernel
theorem s251_43 {d : Nat} {st : List Value} {σ : am_I} {ρ : am_R} {g : am_J} {τ : am_T} {Q : am_Q} {x0 x1 x2 x3 : Value} {a : Nat} (ht : τ.1 a = 12) : AW d 251 43 [x0, x1, x2, x3] (.ref a :: st) σ ρ g τ Q = AW d 251 46 [x0, x1, x2, x3] (va_rf (ρ a 48) :: st) σ ρ g τ Q := aw_gr m251 d251_43 rfl rfl rfl ht
theorem d251_46 : decode cX12_put 46 = .ok (.bipush 40, 2) := by decide +kernel
theorem s251_46 {d : Nat} {st : List Value} {σ : am_I} {ρ : am_R} {g : am_J} {τ : am_T} {Q : am_Q} {x0 x1 x2 x3 : Value} : AW d 251 46 [x0, x1, x2, x3] (st) σ ρ g τ Q = AW d 251 48 [x0, x1, x2, x3] (.int 40 :: st) σ ρ g τ Q := aw_lc m251 d251_46 rfl rfl rfl
theorem d251_48 : decode cX12_put 48 = .ok (.iload_n 1, 1) := by decide +kernel
theorem s251_48 {d : Nat} {st : List Value} {σ : am_I} {ρ : am_R} {g : am_J} {τ : am_T} {Q : am_Q} {x0 x2 x3 : Value} {v : Int32} : AW d 251 48 [x0, .int v, x2, x3] (st) σ ρ g τ Q = AW d 251 49 [x0, .int v, x2, x3] (.int v :: st) σ ρ g τ Q := aw_lc m251 d251_48 rfl rfl rfl
theorem d251_49 : decode cX12_put 49 = .ok (.imul, 1) := by decide +kernel
theorem s251_49 {d : Nat} {st : List Value} {σ : am_I} {ρ : am_R} {g : am_J} {τ : am_T} {Q : am_Q} {x0 x1 x2 x3 : Value} {v w : Int32} : AW d 251 49 [x0, x1, x2, x3] (.int w :: .int v :: st) σ ρ g τ Q = AW d 251 50 [x0, x1, x2, x3] (.int (v * w) :: st) σ ρ g τ Q := aw_lc m251 d251_49 rfl rfl rfl
theorem d251_50 : decode cX12_put 50 = .ok (.iload_n 2, 1) := by decide +kernel
theorem s251_50 {d : Nat} {st : List Value} {σ : am_I} {ρ : am_R} {g : am_J} {τ : am_T} {Q : am_Q} {x0 x1 x3 : Value} {v : Int32} : AW d 251 50 [x0, x1, .int v, x3] (st) σ ρ g τ Q = AW d 251 51 [x0, x1, .int v, x3] (.int v :: st) σ ρ g τ Q := aw_lc m251 d251_50 rfl rfl rfl
theorem d251_51 : decode cX12_put 51 = .ok (.iadd, 1) := by decide +kernel
theorem s251_51 {d : Nat} {st : List Value} {σ : am_I} {ρ : am_R} {g : am_J} {τ : am_T} {Q : am_Q} {x0 x1 x2 x3 : Value} {v w : Int32} : AW d 251 51 [x0, x1, x2, x3] (.int w :: .int v :: st) σ ρ g τ Q = AW d 251 52 [x0, x1, x2, x3] (.int (v + w) :: st) σ ρ g τ Q := aw_lc m251 d251_51 rfl rfl rfl
theorem d251_52 : decode cX12_put 52 = .ok (.aload_n 0, 1) := by decide +kernel
theorem s251_52 {d : Nat} {st : List Value} {σ : am_I} {ρ : am_R} {g : am_J} {τ : am_T} {Q : am_Q} {x1 x2 x3 : Value} {v : Nat} : AW d 251 52 [.ref v, x1, x2, x3] (st) σ ρ g τ Q = AW d 251 53 [.ref v, x1, x2, x3] (.ref v :: st) σ ρ g τ Q := aw_lc m251 d251_52 rfl rfl rfl
theorem d251_53 : decode cX12_put 53 = .ok (.getfield 151, 3) := by decide +kernel
theorem s251_53 {d : Nat} {st : List Value} {σ : am_I} {ρ : am_R} {g : am_J} {τ : am_T} {Q : am_Q} {x0 x1 x2 x3 : Value} {a : Nat} (ht : τ.1 a = 12) : AW d 251 53 [x0, x1, x2, x3] (.ref a :: st) σ ρ g τ Q = AW d 251 56 [x0, x1, x2, x3] (va_rf (ρ a 49) :: st) σ ρ g τ Q := aw_gr m251 d251_53 rfl rfl rfl ht
theorem d251_56 : decode cX12_put 56 = .ok (.iload_n 1, 1) := by decide +kernel
theorem s251_56 {d : Nat} {st : List Value} {σ : am_I} {ρ : am_R} {g : am_J} {τ : am_T} {Q : am_Q} {x0 x2 x3 : Value} {v : Int32} : AW d 251 56 [x0, .int v, x2, x3] (st) σ ρ g τ Q = AW d 251 57 [x0, .int v, x2, x3] (.int v :: st) σ ρ g τ Q := aw_lc m251 d251_56 rfl rfl rfl
theorem d251_57 : decode cX12_put 57 = .ok (.iaload, 1) := by decide +kernel
theorem s251_57 {d : Nat} {st : List Value} {σ : am_I} {ρ : am_R} {g : am_J} {τ : am_T} {Q : am_Q} {x0 x1 x2 x3 : Value} {a : Nat} {j : Int32} (ht : τ.1 a = 15) (hj : am_inb j (τ.2.1 a) = true) : AW d 251 57 [x0, x1, x2, x3] (.int j :: .ref a :: st) σ ρ g τ Q = AW d 251 58 [x0, x1, x2, x3] (.int (σ a j.toNatClampNeg) :: st) σ ρ g τ Q := aw_ial m251 d251_57 rfl ht hj
theorem d251_58 : decode cX12_put 58 = .ok (.iload_n 3, 1) := by decide +kernel
theorem s251_58 {d : Nat} {st : List Value} {σ : am_I} {ρ : am_R} {g : am_J} {τ : am_T} {Q : am_Q} {x0 x1 x2 : Value} {v : Int32} : AW d 251 58 [x0, x1, x2, .int v] (st) σ ρ g τ Q = AW d 251 59 [x0, x1, x2, .int v] (.int v :: st) σ ρ g τ Q := aw_lc m251 d251_58 rfl rfl rfl
theorem d251_59 : decode cX12_put 59 = .ok (.invokestatic 440, 3) := by decide +kernel
theorem s251_59 {d : Nat} {st : List Value} {σ : am_I} {ρ : am_R} {g : am_J} {τ : am_T} {Q : am_Q} {x0 x1 x2 x3 : Value} {p0 : Int32} {p1 : Int32} (hs : st.length ≤ 4) : AW (d + 1) 251 59 [x0, x1, x2, x3] (.int p1 :: .int p0 :: st) σ ρ g τ Q = AW d 249 0 [.int p0, .int p1] [] σ ρ g τ (fun r9 σ ρ g τ => AW (d + 1) 251 62 [x0, x1, x2, x3] (r9.toList ++ st) σ ρ g τ Q) := aw_cs m251 d251_59 rfl (by simp only [List.length_cons]; omega) rfl rfl en249 ok249 rfl hs
theorem d251_62 : decode cX12_put 62 = .ok (.lastore, 1) := by decide +kernel
theorem s251_62 {d : Nat} {st : List Value} {σ : am_I} {ρ : am_R} {g : am_J} {τ : am_T} {Q : am_Q} {x0 x1 x2 x3 : Value} {a : Nat} {j : Int32} {v : Int64} (ht : τ.1 a = 16) (hj : am_inb j (τ.2.1 a) = true) : AW d 251 62 [x0, x1, x2, x3] (.long v :: .int j :: .ref a :: st) σ ρ g τ Q = AW d 251 63 [x0, x1, x2, x3] (st) σ ρ (am_u g a j.toNatClampNeg v) τ Q := aw_las m251 d251_62 rfl ht hj
theorem d251_63 : decode cX12_put 63 = .ok (.iconst 1, 1) := by decide +kernel
theorem s251_63 {d : Nat} {st : List Value} {σ : am_I} {ρ : am_R} {g : am_J} {τ : am_T} {Q : am_Q} {x0 x1 x2 x3 : Value} : AW d 251 63 [x0, x1, x2, x3] (st) σ ρ g τ Q = AW d 251 64 [x0, x1, x2, x3] (.int 1 :: st) σ ρ g τ Q := aw_lc m251 d251_63 rfl rfl rfl
theorem d251_64 : decode cX12_put 64 = .ok (.ireturn, 1) := by decide +kernel
theorem s251_64 {d : Nat} {σ : am_I} {ρ : am_R} {g : am_J} {τ : am_T} {Q : am_Q} {x0 x1 x2 x3 : Value} {v : Int32} : AW d 251 64 [x0, x1, x2, x3] ([.int v]) σ ρ g τ Q = Q (some (.int v)) σ ρ g τ := aw_ri m251 d251_64 rfl
theorem d252_0 : decode cX12_item 0 = .ok (.iload_n 1, 1) := by decide +kernel
theorem s252_0 {d : Nat} {st : List Value} {σ : am_I} {ρ : am_R} {g : am_J} {τ : am_T} {Q : am_Q} {x0 x2 x3 : Value} {v : Int32} : AW d 252 0 [x0, .int v, x2, x3] (st) σ ρ g τ Q = AW d 252 1 [x0, .int v, x2, x3] (.int v :: st) σ ρ g τ Q := aw_lc m252 d252_0 rfl rfl rfl
theorem d252_1 : decode cX12_item 1 = .ok (.iconst 0, 1) := by decide +kernel
theorem s252_1 {d : Nat} {st : List Value} {σ : am_I} {ρ : am_R} {g : am_J} {τ : am_T} {Q : am_Q} {x0 x1 x2 x3 : Value} : AW d 252 1 [x0, x1, x2, x3] (st) σ ρ g τ Q = AW d 252 2 [x0, x1, x2, x3] (.int 0 :: st) σ ρ g τ Q := aw_lc m252 d252_1 rfl rfl rfl
theorem d252_2 : decode cX12_item 2 = .ok (.iconst 3, 1) := by decide +kernel
theorem s252_2 {d : Nat} {st : List Value} {σ : am_I} {ρ : am_R} {g : am_J} {τ : am_T} {Q : am_Q} {x0 x1 x2 x3 : Value} : AW d 252 2 [x0, x1, x2, x3] (st) σ ρ g τ Q = AW d 252 3 [x0, x1, x2, x3] (.int 3 :: st) σ ρ g τ Q := aw_lc m252 d252_2 rfl rfl rfl
theorem d252_3 : decode cX12_item 3 = .ok (.invokestatic 194, 3) := by decide +kernel
theorem s252_3 {d : Nat} {st : List Value} {σ : am_I} {ρ : am_R} {g : am_J} {τ : am_T} {Q : am_Q} {x0 x1 x2 x3 : Value} {p0 : Int32} {p1 : Int32} {p2 : Int32} (hs : st.length ≤ 4) : AW (d + 1) 252 3 [x0, x1, x2, x3] (.int p2 :: .int p1 :: .int p0 :: st) σ ρ g τ Q = AW d 165 0 [.int p0, .int p1, .int p2] [] σ ρ g τ (fun r9 σ ρ g τ => AW (d + 1) 252 6 [x0, x1, x2, x3] (r9.toList ++ st) σ ρ g τ Q) := aw_cs m252 d252_3 rfl (by simp only [List.length_cons]; omega) rfl rfl en165 ok165 rfl hs
theorem d252_6 : decode cX12_item 6 = .ok (.ifCond .eq 12, 3) := by decide +kernel
theorem s252_6 {d : Nat} {st : List Value} {σ : am_I} {ρ : am_R} {g : am_J} {τ : am_T} {Q : am_Q} {x0 x1 x2 x3 : Value} {v : Int32} : AW d 252 6 [x0, x1, x2, x3] (.int v :: st) σ ρ g τ Q = if v = 0 then AW d 252 18 [x0, x1, x2, x3] (st) σ ρ g τ Q else AW d 252 9 [x0, x1, x2, x3] (st) σ ρ g τ Q := aw_br m252 d252_6 rfl rfl rfl
theorem d252_9 : decode cX12_item 9 = .ok (.iload_n 2, 1) := by decide +kernel
theorem s252_9 {d : Nat} {st : List Value} {σ : am_I} {ρ : am_R} {g : am_J} {τ : am_T} {Q : am_Q} {x0 x1 x3 : Value} {v : Int32} : AW d 252 9 [x0, x1, .int v, x3] (st) σ ρ g τ Q = AW d 252 10 [x0, x1, .int v, x3] (.int v :: st) σ ρ g τ Q := aw_lc m252 d252_9 rfl rfl rfl
theorem d252_10 : decode cX12_item 10 = .ok (.iconst 0, 1) := by decide +kernel
theorem s252_10 {d : Nat} {st : List Value} {σ : am_I} {ρ : am_R} {g : am_J} {τ : am_T} {Q : am_Q} {x0 x1 x2 x3 : Value} : AW d 252 10 [x0, x1, x2, x3] (st) σ ρ g τ Q = AW d 252 11 [x0, x1, x2, x3] (.int 0 :: st) σ ρ g τ Q := aw_lc m252 d252_10 rfl rfl rfl
theorem d252_11 : decode cX12_item 11 = .ok (.iconst 4, 1) := by decide +kernel
theorem s252_11 {d : Nat} {st : List Value} {σ : am_I} {ρ : am_R} {g : am_J} {τ : am_T} {Q : am_Q} {x0 x1 x2 x3 : Value} : AW d 252 11 [x0, x1, x2, x3] (st) σ ρ g τ Q = AW d 252 12 [x0, x1, x2, x3] (.int 4 :: st) σ ρ g τ Q := aw_lc m252 d252_11 rfl rfl rfl
theorem d252_12 : decode cX12_item 12 = .ok (.invokestatic 194, 3) := by decide +kernel
theorem s252_12 {d : Nat} {st : List Value} {σ : am_I} {ρ : am_R} {g : am_J} {τ : am_T} {Q : am_Q} {x0 x1 x2 x3 : Value} {p0 : Int32} {p1 : Int32} {p2 : Int32} (hs : st.length ≤ 4) : AW (d + 1) 252 12 [x0, x1, x2, x3] (.int p2 :: .int p1 :: .int p0 :: st) σ ρ g τ Q = AW d 165 0 [.int p0, .int p1, .int p2] [] σ ρ g τ (fun r9 σ ρ g τ => AW (d + 1) 252 15 [x0, x1, x2, x3] (r9.toList ++ st) σ ρ g τ Q) := aw_cs m252 d252_12 rfl (by simp only [List.length_cons]; omega) rfl rfl en165 ok165 rfl hs
theorem d252_15 : decode cX12_item 15 = .ok (.ifCond .ne 5, 3) := by decide +kernel
theorem s252_15 {d : Nat} {st : List Value} {σ : am_I} {ρ : am_R} {g : am_J} {τ : am_T} {Q : am_Q} {x0 x1 x2 x3 : Value} {v : Int32} : AW d 252 15 [x0, x1, x2, x3] (.int v :: st) σ ρ g τ Q = if ¬ v = 0 then AW d 252 20 [x0, x1, x2, x3] (st) σ ρ g τ Q else AW d 252 18 [x0, x1, x2, x3] (st) σ ρ g τ Q := aw_br m252 d252_15 rfl rfl rfl
theorem d252_18 : decode cX12_item 18 = .ok (.iconst (-1), 1) := by decide +kernel
theorem s252_18 {d : Nat} {st : List Value} {σ : am_I} {ρ : am_R} {g : am_J} {τ : am_T} {Q : am_Q} {x0 x1 x2 x3 : Value} : AW d 252 18 [x0, x1, x2, x3] (st) σ ρ g τ Q = AW d 252 19 [x0, x1, x2, x3] (.int (-1) :: st) σ ρ g τ Q := aw_lc m252 d252_18 rfl rfl rfl
theorem d252_19 : decode cX12_item 19 = .ok (.ireturn, 1) := by decide +kernel
theorem s252_19 {d : Nat} {σ : am_I} {ρ : am_R} {g : am_J} {τ : am_T} {Q : am_Q} {x0 x1 x2 x3 : Value} {v : Int32} : AW d 252 19 [x0, x1, x2, x3] ([.int v]) σ ρ g τ Q = Q (some (.int v)) σ ρ g τ := aw_ri m252 d252_19 rfl
theorem d252_20 : decode cX12_item 20 = .ok (.aload_n 0, 1) := by decide +kernel
theorem s252_20 {d : Nat} {st : List Value} {σ : am_I} {ρ : am_R} {g : am_J} {τ : am_T} {Q : am_Q} {x1 x2 x3 : Value} {v : Nat} : AW d 252 20 [.ref v, x1, x2, x3] (st) σ ρ g τ Q = AW d 252 21 [.ref v, x1, x2, x3] (.ref v :: st) σ ρ g τ Q := aw_lc m252 d252_20 rfl rfl rfl
theorem d252_21 : decode cX12_item 21 = .ok (.getfield 151, 3) := by decide +kernel
theorem s252_21 {d : Nat} {st : List Value} {σ : am_I} {ρ : am_R} {g : am_J} {τ : am_T} {Q : am_Q} {x0 x1 x2 x3 : Value} {a : Nat} (ht : τ.1 a = 12) : AW d 252 21 [x0, x1, x2, x3] (.ref a :: st) σ ρ g τ Q = AW d 252 24 [x0, x1, x2, x3] (va_rf (ρ a 49) :: st) σ ρ g τ Q := aw_gr m252 d252_21 rfl rfl rfl ht
theorem d252_24 : decode cX12_item 24 = .ok (.iload_n 1, 1) := by decide +kernel
theorem s252_24 {d : Nat} {st : List Value} {σ : am_I} {ρ : am_R} {g : am_J} {τ : am_T} {Q : am_Q} {x0 x2 x3 : Value} {v : Int32} : AW d 252 24 [x0, .int v, x2, x3] (st) σ ρ g τ Q = AW d 252 25 [x0, .int v, x2, x3] (.int v :: st) σ ρ g τ Q := aw_lc m252 d252_24 rfl rfl rfl
theorem d252_25 : decode cX12_item 25 = .ok (.iaload, 1) := by decide +kernel
theorem s252_25 {d : Nat} {st : List Value} {σ : am_I} {ρ : am_R} {g : am_J} {τ : am_T} {Q : am_Q} {x0 x1 x2 x3 : Value} {a : Nat} {j : Int32} (ht : τ.1 a = 15) (hj : am_inb j (τ.2.1 a) = true) : AW d 252 25 [x0, x1, x2, x3] (.int j :: .ref a :: st) σ ρ g τ Q = AW d 252 26 [x0, x1, x2, x3] (.int (σ a j.toNatClampNeg) :: st) σ ρ g τ Q := aw_ial m252 d252_25 rfl ht hj
theorem d252_26 : decode cX12_item 26 = .ok (.ifCond .ge 6, 3) := by decide +kernel
theorem s252_26 {d : Nat} {st : List Value} {σ : am_I} {ρ : am_R} {g : am_J} {τ : am_T} {Q : am_Q} {x0 x1 x2 x3 : Value} {v : Int32} : AW d 252 26 [x0, x1, x2, x3] (.int v :: st) σ ρ g τ Q = if 0 ≤ v then AW d 252 32 [x0, x1, x2, x3] (st) σ ρ g τ Q else AW d 252 29 [x0, x1, x2, x3] (st) σ ρ g τ Q := aw_br m252 d252_26 rfl rfl rfl
theorem d252_29 : decode cX12_item 29 = .ok (.bipush (-11), 2) := by decide +kernel
theorem s252_29 {d : Nat} {st : List Value} {σ : am_I} {ρ : am_R} {g : am_J} {τ : am_T} {Q : am_Q} {x0 x1 x2 x3 : Value} : AW d 252 29 [x0, x1, x2, x3] (st) σ ρ g τ Q = AW d 252 31 [x0, x1, x2, x3] (.int (-11) :: st) σ ρ g τ Q := aw_lc m252 d252_29 rfl rfl rfl
theorem d252_31 : decode cX12_item 31 = .ok (.ireturn, 1) := by decide +kernel
theorem s252_31 {d : Nat} {σ : am_I} {ρ : am_R} {g : am_J} {τ : am_T} {Q : am_Q} {x0 x1 x2 x3 : Value} {v : Int32} : AW d 252 31 [x0, x1, x2, x3] ([.int v]) σ ρ g τ Q = Q (some (.int v)) σ ρ g τ := aw_ri m252 d252_31 rfl
theorem d252_32 : decode cX12_item 32 = .ok (.aload_n 0, 1) := by decide +kernel
theorem s252_32 {d : Nat} {st : List Value} {σ : am_I} {ρ : am_R} {g : am_J} {τ : am_T} {Q : am_Q} {x1 x2 x3 : Value} {v : Nat} : AW d 252 32 [.ref v, x1, x2, x3] (st) σ ρ g τ Q = AW d 252 33 [.ref v, x1, x2, x3] (.ref v :: st) σ ρ g τ Q := aw_lc m252 d252_32 rfl rfl rfl
theorem d252_33 : decode cX12_item 33 = .ok (.getfield 151, 3) := by decide +kernel
theorem s252_33 {d : Nat} {st : List Value} {σ : am_I} {ρ : am_R} {g : am_J} {τ : am_T} {Q : am_Q} {x0 x1 x2 x3 : Value} {a : Nat} (ht : τ.1 a = 12) : AW d 252 33 [x0, x1, x2, x3] (.ref a :: st) σ ρ g τ Q = AW d 252 36 [x0, x1, x2, x3] (va_rf (ρ a 49) :: st) σ ρ g τ Q := aw_gr m252 d252_33 rfl rfl rfl ht
theorem d252_36 : decode cX12_item 36 = .ok (.iload_n 1, 1) := by decide +kernel
theorem s252_36 {d : Nat} {st : List Value} {σ : am_I} {ρ : am_R} {g : am_J} {τ : am_T} {Q : am_Q} {x0 x2 x3 : Value} {v : Int32} : AW d 252 36 [x0, .int v, x2, x3] (st) σ ρ g τ Q = AW d 252 37 [x0, .int v, x2, x3] (.int v :: st) σ ρ g τ Q := aw_lc m252 d252_36 rfl rfl rfl
theorem d252_37 : decode cX12_item 37 = .ok (.iaload, 1) := by decide +kernel
theorem s252_37 {d : Nat} {st : List Value} {σ : am_I} {ρ : am_R} {g : am_J} {τ : am_T} {Q : am_Q} {x0 x1 x2 x3 : Value} {a : Nat} {j : Int32} (ht : τ.1 a = 15) (hj : am_inb j (τ.2.1 a) = true) : AW d 252 37 [x0, x1, x2, x3] (.int j :: .ref a :: st) σ ρ g τ Q = AW d 252 38 [x0, x1, x2, x3] (.int (σ a j.toNatClampNeg) :: st) σ ρ g τ Q := aw_ial m252 d252_37 rfl ht hj
theorem d252_38 : decode cX12_item 38 = .ok (.iload_n 2, 1) := by decide +kernel
theorem s252_38 {d : Nat} {st : List Value} {σ : am_I} {ρ : am_R} {g : am_J} {τ : am_T} {Q : am_Q} {x0 x1 x3 : Value} {v : Int32} : AW d 252 38 [x0, x1, .int v, x3] (st) σ ρ g τ Q = AW d 252 39 [x0, x1, .int v, x3] (.int v :: st) σ ρ g τ Q := aw_lc m252 d252_38 rfl rfl rfl
theorem d252_39 : decode cX12_item 39 = .ok (.if_icmp .eq 6, 3) := by decide +kernel
theorem s252_39 {d : Nat} {st : List Value} {σ : am_I} {ρ : am_R} {g : am_J} {τ : am_T} {Q : am_Q} {x0 x1 x2 x3 : Value} {v w : Int32} : AW d 252 39 [x0, x1, x2, x3] (.int w :: .int v :: st) σ ρ g τ Q = if v = w then AW d 252 45 [x0, x1, x2, x3] (st) σ ρ g τ Q else AW d 252 42 [x0, x1, x2, x3] (st) σ ρ g τ Q := aw_br m252 d252_39 rfl rfl rfl
theorem d252_42 : decode cX12_item 42 = .ok (.bipush (-13), 2) := by decide +kernel
theorem s252_42 {d : Nat} {st : List Value} {σ : am_I} {ρ : am_R} {g : am_J} {τ : am_T} {Q : am_Q} {x0 x1 x2 x3 : Value} : AW d 252 42 [x0, x1, x2, x3] (st) σ ρ g τ Q = AW d 252 44 [x0, x1, x2, x3] (.int (-13) :: st) σ ρ g τ Q := aw_lc m252 d252_42 rfl rfl rfl
theorem d252_44 : decode cX12_item 44 = .ok (.ireturn, 1) := by decide +kernel
theorem s252_44 {d : Nat} {σ : am_I} {ρ : am_R} {g : am_J} {τ : am_T} {Q : am_Q} {x0 x1 x2 x3 : Value} {v : Int32} : AW d 252 44 [x0, x1, x2, x3] ([.int v]) σ ρ g τ Q = Q (some (.int v)) σ ρ g τ := aw_ri m252 d252_44 rfl
theorem d252_45 : decode cX12_item 45 = .ok (.iload_n 3, 1) := by decide +kernel
theorem s252_45 {d : Nat} {st : List Value} {σ : am_I} {ρ : am_R} {g : am_J} {τ : am_T} {Q : am_Q} {x0 x1 x2 : Value} {v : Int32} : AW d 252 45 [x0, x1, x2, .int v] (st) σ ρ g τ Q = AW d 252 46 [x0, x1, x2, .int v] (.int v :: st) σ ρ g τ Q := aw_lc m252 d252_45 rfl rfl rfl
theorem d252_46 : decode cX12_item 46 = .ok (.iconst 0, 1) := by decide +kernel
theorem s252_46 {d : Nat} {st : List Value} {σ : am_I} {ρ : am_R} {g : am_J} {τ : am_T} {Q : am_Q} {x0 x1 x2 x3 : Value} : AW d 252 46 [x0, x1, x2, x3] (st) σ ρ g τ Q = AW d 252 47 [x0, x1, x2, x3] (.int 0 :: st) σ ρ g τ Q := aw_lc m252 d252_46 rfl rfl rfl
theorem d252_47 : decode cX12_item 47 = .ok (.aload_n 0, 1) := by decide +kernel
theorem s252_47 {d : Nat} {st : List Value} {σ : am_I} {ρ : am_R} {g : am_J} {τ : am_T} {Q : am_Q} {x1 x2 x3 : Value} {v : Nat} : AW d 252 47 [.ref v, x1, x2, x3] (st) σ ρ g τ Q = AW d 252 48 [.ref v, x1, x2, x3] (.ref v :: st) σ ρ g τ Q := aw_lc m252 d252_47 rfl rfl rfl
theorem d252_48 : decode cX12_item 48 = .ok (.getfield 154, 3) := by decide +kernel
theorem s252_48 {d : Nat} {st : List Value} {σ : am_I} {ρ : am_R} {g : am_J} {τ : am_T} {Q : am_Q} {x0 x1 x2 x3 : Value} {a : Nat} (ht : τ.1 a = 12) : AW d 252 48 [x0, x1, x2, x3] (.ref a :: st) σ ρ g τ Q = AW d 252 51 [x0, x1, x2, x3] (va_rf (ρ a 50) :: st) σ ρ g τ Q := aw_gr m252 d252_48 rfl rfl rfl ht
theorem d252_51 : decode cX12_item 51 = .ok (.iload_n 1, 1) := by decide +kernel
theorem s252_51 {d : Nat} {st : List Value} {σ : am_I} {ρ : am_R} {g : am_J} {τ : am_T} {Q : am_Q} {x0 x2 x3 : Value} {v : Int32} : AW d 252 51 [x0, .int v, x2, x3] (st) σ ρ g τ Q = AW d 252 52 [x0, .int v, x2, x3] (.int v :: st) σ ρ g τ Q := aw_lc m252 d252_51 rfl rfl rfl
theorem d252_52 : decode cX12_item 52 = .ok (.iaload, 1) := by decide +kernel
theorem s252_52 {d : Nat} {st : List Value} {σ : am_I} {ρ : am_R} {g : am_J} {τ : am_T} {Q : am_Q} {x0 x1 x2 x3 : Value} {a : Nat} {j : Int32} (ht : τ.1 a = 15) (hj : am_inb j (τ.2.1 a) = true) : AW d 252 52 [x0, x1, x2, x3] (.int j :: .ref a :: st) σ ρ g τ Q = AW d 252 53 [x0, x1, x2, x3] (.int (σ a j.toNatClampNeg) :: st) σ ρ g τ Q := aw_ial m252 d252_52 rfl ht hj
theorem d252_53 : decode cX12_item 53 = .ok (.iconst 1, 1) := by decide +kernel
theorem s252_53 {d : Nat} {st : List Value} {σ : am_I} {ρ : am_R} {g : am_J} {τ : am_T} {Q : am_Q} {x0 x1 x2 x3 : Value} : AW d 252 53 [x0, x1, x2, x3] (st) σ ρ g τ Q = AW d 252 54 [x0, x1, x2, x3] (.int 1 :: st) σ ρ g τ Q := aw_lc m252 d252_53 rfl rfl rfl
theorem d252_54 : decode cX12_item 54 = .ok (.isub, 1) := by decide +kernel
theorem s252_54 {d : Nat} {st : List Value} {σ : am_I} {ρ : am_R} {g : am_J} {τ : am_T} {Q : am_Q} {x0 x1 x2 x3 : Value} {v w : Int32} : AW d 252 54 [x0, x1, x2, x3] (.int w :: .int v :: st) σ ρ g τ Q = AW d 252 55 [x0, x1, x2, x3] (.int (v - w) :: st) σ ρ g τ Q := aw_lc m252 d252_54 rfl rfl rfl
theorem d252_55 : decode cX12_item 55 = .ok (.invokestatic 194, 3) := by decide +kernel
theorem s252_55 {d : Nat} {st : List Value} {σ : am_I} {ρ : am_R} {g : am_J} {τ : am_T} {Q : am_Q} {x0 x1 x2 x3 : Value} {p0 : Int32} {p1 : Int32} {p2 : Int32} (hs : st.length ≤ 4) : AW (d + 1) 252 55 [x0, x1, x2, x3] (.int p2 :: .int p1 :: .int p0 :: st) σ ρ g τ Q = AW d 165 0 [.int p0, .int p1, .int p2] [] σ ρ g τ (fun r9 σ ρ g τ => AW (d + 1) 252 58 [x0, x1, x2, x3] (r9.toList ++ st) σ ρ g τ Q) := aw_cs m252 d252_55 rfl (by simp only [List.length_cons]; omega) rfl rfl en165 ok165 rfl hs
theorem d252_58 : decode cX12_item 58 = .ok (.ifCond .ne 6, 3) := by decide +kernel
theorem s252_58 {d : Nat} {st : List Value} {σ : am_I} {ρ : am_R} {g : am_J} {τ : am_T} {Q : am_Q} {x0 x1 x2 x3 : Value} {v : Int32} : AW d 252 58 [x0, x1, x2, x3] (.int v :: st) σ ρ g τ Q = if ¬ v = 0 then AW d 252 64 [x0, x1, x2, x3] (st) σ ρ g τ Q else AW d 252 61 [x0, x1, x2, x3] (st) σ ρ g τ Q := aw_br m252 d252_58 rfl rfl rfl
theorem d252_61 : decode cX12_item 61 = .ok (.bipush (-12), 2) := by decide +kernel
theorem s252_61 {d : Nat} {st : List Value} {σ : am_I} {ρ : am_R} {g : am_J} {τ : am_T} {Q : am_Q} {x0 x1 x2 x3 : Value} : AW d 252 61 [x0, x1, x2, x3] (st) σ ρ g τ Q = AW d 252 63 [x0, x1, x2, x3] (.int (-12) :: st) σ ρ g τ Q := aw_lc m252 d252_61 rfl rfl rfl
theorem d252_63 : decode cX12_item 63 = .ok (.ireturn, 1) := by decide +kernel
theorem s252_63 {d : Nat} {σ : am_I} {ρ : am_R} {g : am_J} {τ : am_T} {Q : am_Q} {x0 x1 x2 x3 : Value} {v : Int32} : AW d 252 63 [x0, x1, x2, x3] ([.int v]) σ ρ g τ Q = Q (some (.int v)) σ ρ g τ := aw_ri m252 d252_63 rfl
theorem d252_64 : decode cX12_item 64 = .ok (.aload_n 0, 1) := by decide +kernel
theorem s252_64 {d : Nat} {st : List Value} {σ : am_I} {ρ : am_R} {g : am_J} {τ : am_T} {Q : am_Q} {x1 x2 x3 : Value} {v : Nat} : AW d 252 64 [.ref v, x1, x2, x3] (st) σ ρ g τ Q = AW d 252 65 [.ref v, x1, x2, x3] (.ref v :: st) σ ρ g τ Q := aw_lc m252 d252_64 rfl rfl rfl
theorem d252_65 : decode cX12_item 65 = .ok (.getfield 147, 3) := by decide +kernel
theorem s252_65 {d : Nat} {st : List Value} {σ : am_I} {ρ : am_R} {g : am_J} {τ : am_T} {Q : am_Q} {x0 x1 x2 x3 : Value} {a : Nat} (ht : τ.1 a = 12) : AW d 252 65 [x0, x1, x2, x3] (.ref a :: st) σ ρ g τ Q = AW d 252 68 [x0, x1, x2, x3] (va_rf (ρ a 48) :: st) σ ρ g τ Q := aw_gr m252 d252_65 rfl rfl rfl ht
theorem d252_68 : decode cX12_item 68 = .ok (.bipush 40, 2) := by decide +kernel
theorem s252_68 {d : Nat} {st : List Value} {σ : am_I} {ρ : am_R} {g : am_J} {τ : am_T} {Q : am_Q} {x0 x1 x2 x3 : Value} : AW d 252 68 [x0, x1, x2, x3] (st) σ ρ g τ Q = AW d 252 70 [x0, x1, x2, x3] (.int 40 :: st) σ ρ g τ Q := aw_lc m252 d252_68 rfl rfl rfl
theorem d252_70 : decode cX12_item 70 = .ok (.iload_n 1, 1) := by decide +kernel
theorem s252_70 {d : Nat} {st : List Value} {σ : am_I} {ρ : am_R} {g : am_J} {τ : am_T} {Q : am_Q} {x0 x2 x3 : Value} {v : Int32} : AW d 252 70 [x0, .int v, x2, x3] (st) σ ρ g τ Q = AW d 252 71 [x0, .int v, x2, x3] (.int v :: st) σ ρ g τ Q := aw_lc m252 d252_70 rfl rfl rfl
theorem d252_71 : decode cX12_item 71 = .ok (.imul, 1) := by decide +kernel
theorem s252_71 {d : Nat} {st : List Value} {σ : am_I} {ρ : am_R} {g : am_J} {τ : am_T} {Q : am_Q} {x0 x1 x2 x3 : Value} {v w : Int32} : AW d 252 71 [x0, x1, x2, x3] (.int w :: .int v :: st) σ ρ g τ Q = AW d 252 72 [x0, x1, x2, x3] (.int (v * w) :: st) σ ρ g τ Q := aw_lc m252 d252_71 rfl rfl rfl
theorem d252_72 : decode cX12_item 72 = .ok (.iload_n 3, 1) := by decide +kernel
theorem s252_72 {d : Nat} {st : List Value} {σ : am_I} {ρ : am_R} {g : am_J} {τ : am_T} {Q : am_Q} {x0 x1 x2 : Value} {v : Int32} : AW d 252 72 [x0, x1, x2, .int v] (st) σ ρ g τ Q = AW d 252 73 [x0, x1, x2, .int v] (.int v :: st) σ ρ g τ Q := aw_lc m252 d252_72 rfl rfl rfl
theorem d252_73 : decode cX12_item 73 = .ok (.iadd, 1) := by decide +kernel
theorem s252_73 {d : Nat} {st : List Value} {σ : am_I} {ρ : am_R} {g : am_J} {τ : am_T} {Q : am_Q} {x0 x1 x2 x3 : Value} {v w : Int32} : AW d 252 73 [x0, x1, x2, x3] (.int w :: .int v :: st) σ ρ g τ Q = AW d 252 74 [x0, x1, x2, x3] (.int (v + w) :: st) σ ρ g τ Q := aw_lc m252 d252_73 rfl rfl rfl
theorem d252_74 : decode cX12_item 74 = .ok (.laload, 1) := by decide +kernel
theorem s252_74 {d : Nat} {st : List Value} {σ : am_I} {ρ : am_R} {g : am_J} {τ : am_T} {Q : am_Q} {x0 x1 x2 x3 : Value} {a : Nat} {j : Int32} (ht : τ.1 a = 16) (hj : am_inb j (τ.2.1 a) = true) : AW d 252 74 [x0, x1, x2, x3] (.int j :: .ref a :: st) σ ρ g τ Q = AW d 252 75 [x0, x1, x2, x3] (.long (g a j.toNatClampNeg) :: st) σ ρ g τ Q := aw_lal m252 d252_74 rfl ht hj
theorem d252_75 : decode cX12_item 75 = .ok (.l2i, 1) := by decide +kernel
theorem s252_75 {d : Nat} {st : List Value} {σ : am_I} {ρ : am_R} {g : am_J} {τ : am_T} {Q : am_Q} {x0 x1 x2 x3 : Value} {v : Int64} : AW d 252 75 [x0, x1, x2, x3] (.long v :: st) σ ρ g τ Q = AW d 252 76 [x0, x1, x2, x3] (.int v.toInt32 :: st) σ ρ g τ Q := aw_lc m252 d252_75 rfl rfl rfl
theorem d252_76 : decode cX12_item 76 = .ok (.ireturn, 1) := by decide +kernel
theorem s252_76 {d : Nat} {σ : am_I} {ρ : am_R} {g : am_J} {τ : am_T} {Q : am_Q} {x0 x1 x2 x3 : Value} {v : Int32} : AW d 252 76 [x0, x1, x2, x3] ([.int v]) σ ρ g τ Q = Q (some (.int v)) σ ρ g τ := aw_ri m252 d252_76 rfl
theorem d253_0 : decode cX12_shelf 0 = .ok (.iload_n 1, 1) := by decide +kernel
theorem s253_0 {d : Nat} {st : List Value} {σ : am_I} {ρ : am_R} {g : am_J} {τ : am_T} {Q : am_Q} {x0 x2 x3 : Value} {v : Int32} : AW d 253 0 [x0, .int v, x2, x3] (st) σ ρ g τ Q = AW d 253 1 [x0, .int v, x2, x3] (.int v :: st) σ ρ g τ Q := aw_lc m253 d253_0 rfl rfl rfl
theorem d253_1 : decode cX12_shelf 1 = .ok (.iconst 0, 1) := by decide +kernel
theorem s253_1 {d : Nat} {st : List Value} {σ : am_I} {ρ : am_R} {g : am_J} {τ : am_T} {Q : am_Q} {x0 x1 x2 x3 : Value} : AW d 253 1 [x0, x1, x2, x3] (st) σ ρ g τ Q = AW d 253 2 [x0, x1, x2, x3] (.int 0 :: st) σ ρ g τ Q := aw_lc m253 d253_1 rfl rfl rfl
theorem d253_2 : decode cX12_shelf 2 = .ok (.iconst 3, 1) := by decide +kernel
theorem s253_2 {d : Nat} {st : List Value} {σ : am_I} {ρ : am_R} {g : am_J} {τ : am_T} {Q : am_Q} {x0 x1 x2 x3 : Value} : AW d 253 2 [x0, x1, x2, x3] (st) σ ρ g τ Q = AW d 253 3 [x0, x1, x2, x3] (.int 3 :: st) σ ρ g τ Q := aw_lc m253 d253_2 rfl rfl rfl
theorem d253_3 : decode cX12_shelf 3 = .ok (.invokestatic 194, 3) := by decide +kernel
theorem s253_3 {d : Nat} {st : List Value} {σ : am_I} {ρ : am_R} {g : am_J} {τ : am_T} {Q : am_Q} {x0 x1 x2 x3 : Value} {p0 : Int32} {p1 : Int32} {p2 : Int32} (hs : st.length ≤ 4) : AW (d + 1) 253 3 [x0, x1, x2, x3] (.int p2 :: .int p1 :: .int p0 :: st) σ ρ g τ Q = AW d 165 0 [.int p0, .int p1, .int p2] [] σ ρ g τ (fun r9 σ ρ g τ => AW (d + 1) 253 6 [x0, x1, x2, x3] (r9.toList ++ st) σ ρ g τ Q) := aw_cs m253 d253_3 rfl (by simp only [List.length_cons]; omega) rfl rfl en165 ok165 rfl hs
theorem d253_6 : decode cX12_shelf 6 = .ok (.ifCond .eq 12, 3) := by decide +kernel
theorem s253_6 {d : Nat} {st : List Value} {σ : am_I} {ρ : am_R} {g : am_J} {τ : am_T} {Q : am_Q} {x0 x1 x2 x3 : Value} {v : Int32} : AW d 253 6 [x0, x1, x2, x3] (.int v :: st) σ ρ g τ Q = if v = 0 then AW d 253 18 [x0, x1, x2, x3] (st) σ ρ g τ Q else AW d 253 9 [x0, x1, x2, x3] (st) σ ρ g τ Q := aw_br m253 d253_6 rfl rfl rfl
theorem d253_9 : decode cX12_shelf 9 = .ok (.iload_n 2, 1) := by decide +kernel
theorem s253_9 {d : Nat} {st : List Value} {σ : am_I} {ρ : am_R} {g : am_J} {τ : am_T} {Q : am_Q} {x0 x1 x3 : Value} {v : Int32} : AW d 253 9 [x0, x1, .int v, x3] (st) σ ρ g τ Q = AW d 253 10 [x0, x1, .int v, x3] (.int v :: st) σ ρ g τ Q := aw_lc m253 d253_9 rfl rfl rfl
theorem d253_10 : decode cX12_shelf 10 = .ok (.iconst 0, 1) := by decide +kernel
theorem s253_10 {d : Nat} {st : List Value} {σ : am_I} {ρ : am_R} {g : am_J} {τ : am_T} {Q : am_Q} {x0 x1 x2 x3 : Value} : AW d 253 10 [x0, x1, x2, x3] (st) σ ρ g τ Q = AW d 253 11 [x0, x1, x2, x3] (.int 0 :: st) σ ρ g τ Q := aw_lc m253 d253_10 rfl rfl rfl
theorem d253_11 : decode cX12_shelf 11 = .ok (.iconst 3, 1) := by decide +kernel
theorem s253_11 {d : Nat} {st : List Value} {σ : am_I} {ρ : am_R} {g : am_J} {τ : am_T} {Q : am_Q} {x0 x1 x2 x3 : Value} : AW d 253 11 [x0, x1, x2, x3] (st) σ ρ g τ Q = AW d 253 12 [x0, x1, x2, x3] (.int 3 :: st) σ ρ g τ Q := aw_lc m253 d253_11 rfl rfl rfl
theorem d253_12 : decode cX12_shelf 12 = .ok (.invokestatic 194, 3) := by decide +kernel
theorem s253_12 {d : Nat} {st : List Value} {σ : am_I} {ρ : am_R} {g : am_J} {τ : am_T} {Q : am_Q} {x0 x1 x2 x3 : Value} {p0 : Int32} {p1 : Int32} {p2 : Int32} (hs : st.length ≤ 4) : AW (d + 1) 253 12 [x0, x1, x2, x3] (.int p2 :: .int p1 :: .int p0 :: st) σ ρ g τ Q = AW d 165 0 [.int p0, .int p1, .int p2] [] σ ρ g τ (fun r9 σ ρ g τ => AW (d + 1) 253 15 [x0, x1, x2, x3] (r9.toList ++ st) σ ρ g τ Q) := aw_cs m253 d253_12 rfl (by simp only [List.length_cons]; omega) rfl rfl en165 ok165 rfl hs
theorem d253_15 : decode cX12_shelf 15 = .ok (.ifCond .ne 5, 3) := by decide +kernel
theorem s253_15 {d : Nat} {st : List Value} {σ : am_I} {ρ : am_R} {g : am_J} {τ : am_T} {Q : am_Q} {x0 x1 x2 x3 : Value} {v : Int32} : AW d 253 15 [x0, x1, x2, x3] (.int v :: st) σ ρ g τ Q = if ¬ v = 0 then AW d 253 20 [x0, x1, x2, x3] (st) σ ρ g τ Q else AW d 253 18 [x0, x1, x2, x3] (st) σ ρ g τ Q := aw_br m253 d253_15 rfl rfl rfl
theorem d253_18 : decode cX12_shelf 18 = .ok (.iconst (-1), 1) := by decide +kernel
theorem s253_18 {d : Nat} {st : List Value} {σ : am_I} {ρ : am_R} {g : am_J} {τ : am_T} {Q : am_Q} {x0 x1 x2 x3 : Value} : AW d 253 18 [x0, x1, x2, x3] (st) σ ρ g τ Q = AW d 253 19 [x0, x1, x2, x3] (.int (-1) :: st) σ ρ g τ Q := aw_lc m253 d253_18 rfl rfl rfl
theorem d253_19 : decode cX12_shelf 19 = .ok (.ireturn, 1) := by decide +kernel
theorem s253_19 {d : Nat} {σ : am_I} {ρ : am_R} {g : am_J} {τ : am_T} {Q : am_Q} {x0 x1 x2 x3 : Value} {v : Int32} : AW d 253 19 [x0, x1, x2, x3] ([.int v]) σ ρ g τ Q = Q (some (.int v)) σ ρ g τ := aw_ri m253 d253_19 rfl
theorem d253_20 : decode cX12_shelf 20 = .ok (.iload_n 2, 1) := by decide +kernel
theorem s253_20 {d : Nat} {st : List Value} {σ : am_I} {ρ : am_R} {g : am_J} {τ : am_T} {Q : am_Q} {x0 x1 x3 : Value} {v : Int32} : AW d 253 20 [x0, x1, .int v, x3] (st) σ ρ g τ Q = AW d 253 21 [x0, x1, .int v, x3] (.int v :: st) σ ρ g τ Q := aw_lc m253 d253_20 rfl rfl rfl
theorem d253_21 : decode cX12_shelf 21 = .ok (.ifCond .ne 12, 3) := by decide +kernel
theorem s253_21 {d : Nat} {st : List Value} {σ : am_I} {ρ : am_R} {g : am_J} {τ : am_T} {Q : am_Q} {x0 x1 x2 x3 : Value} {v : Int32} : AW d 253 21 [x0, x1, x2, x3] (.int v :: st) σ ρ g τ Q = if ¬ v = 0 then AW d 253 33 [x0, x1, x2, x3] (st) σ ρ g τ Q else AW d 253 24 [x0, x1, x2, x3] (st) σ ρ g τ Q := aw_br m253 d253_21 rfl rfl rfl
theorem d253_24 : decode cX12_shelf 24 = .ok (.aload_n 0, 1) := by decide +kernel
theorem s253_24 {d : Nat} {st : List Value} {σ : am_I} {ρ : am_R} {g : am_J} {τ : am_T} {Q : am_Q} {x1 x2 x3 : Value} {v : Nat} : AW d 253 24 [.ref v, x1, x2, x3] (st) σ ρ g τ Q = AW d 253 25 [.ref v, x1, x2, x3] (.ref v :: st) σ ρ g τ Q := aw_lc m253 d253_24 rfl rfl rfl
theorem d253_25 : decode cX12_shelf 25 = .ok (.iconst 2, 1) := by decide +kernel
theorem s253_25 {d : Nat} {st : List Value} {σ : am_I} {ρ : am_R} {g : am_J} {τ : am_T} {Q : am_Q} {x0 x1 x2 x3 : Value} : AW d 253 25 [x0, x1, x2, x3] (st) σ ρ g τ Q = AW d 253 26 [x0, x1, x2, x3] (.int 2 :: st) σ ρ g τ Q := aw_lc m253 d253_25 rfl rfl rfl
theorem d253_26 : decode cX12_shelf 26 = .ok (.iload_n 3, 1) := by decide +kernel
theorem s253_26 {d : Nat} {st : List Value} {σ : am_I} {ρ : am_R} {g : am_J} {τ : am_T} {Q : am_Q} {x0 x1 x2 : Value} {v : Int32} : AW d 253 26 [x0, x1, x2, .int v] (st) σ ρ g τ Q = AW d 253 27 [x0, x1, x2, .int v] (.int v :: st) σ ρ g τ Q := aw_lc m253 d253_26 rfl rfl rfl
theorem d253_27 : decode cX12_shelf 27 = .ok (.invokevirtual 210, 3) := by decide +kernel
theorem s253_27 {d : Nat} {st : List Value} {σ : am_I} {ρ : am_R} {g : am_J} {τ : am_T} {Q : am_Q} {x0 x1 x2 x3 : Value} {p0 : Nat} {p1 : Int32} {p2 : Int32} (ht : τ.1 p0 = 12) (hs : st.length ≤ 4) : AW (d + 1) 253 27 [x0, x1, x2, x3] (.int p2 :: .int p1 :: .ref p0 :: st) σ ρ g τ Q = AW d 167 0 [.ref p0, .int p1, .int p2] [] σ ρ g τ (fun r9 σ ρ g τ => AW (d + 1) 253 30 [x0, x1, x2, x3] (r9.toList ++ st) σ ρ g τ Q) := aw_cv m253 d253_27 rfl m167 rfl rfl (by decide) en167 ok167 rfl ht hs
theorem d253_30 : decode cX12_shelf 30 = .ok (.ifCond .eq 31, 3) := by decide +kernel
theorem s253_30 {d : Nat} {st : List Value} {σ : am_I} {ρ : am_R} {g : am_J} {τ : am_T} {Q : am_Q} {x0 x1 x2 x3 : Value} {v : Int32} : AW d 253 30 [x0, x1, x2, x3] (.int v :: st) σ ρ g τ Q = if v = 0 then AW d 253 61 [x0, x1, x2, x3] (st) σ ρ g τ Q else AW d 253 33 [x0, x1, x2, x3] (st) σ ρ g τ Q := aw_br m253 d253_30 rfl rfl rfl
theorem d253_33 : decode cX12_shelf 33 = .ok (.iload_n 2, 1) := by decide +kernel
theorem s253_33 {d : Nat} {st : List Value} {σ : am_I} {ρ : am_R} {g : am_J} {τ : am_T} {Q : am_Q} {x0 x1 x3 : Value} {v : Int32} : AW d 253 33 [x0, x1, .int v, x3] (st) σ ρ g τ Q = AW d 253 34 [x0, x1, .int v, x3] (.int v :: st) σ ρ g τ Q := aw_lc m253 d253_33 rfl rfl rfl
theorem d253_34 : decode cX12_shelf 34 = .ok (.iconst 1, 1) := by decide +kernel
theorem s253_34 {d : Nat} {st : List Value} {σ : am_I} {ρ : am_R} {g : am_J} {τ : am_T} {Q : am_Q} {x0 x1 x2 x3 : Value} : AW d 253 34 [x0, x1, x2, x3] (st) σ ρ g τ Q = AW d 253 35 [x0, x1, x2, x3] (.int 1 :: st) σ ρ g τ Q := aw_lc m253 d253_34 rfl rfl rfl
theorem d253_35 : decode cX12_shelf 35 = .ok (.if_icmp .ne 12, 3) := by decide +kernel
theorem s253_35 {d : Nat} {st : List Value} {σ : am_I} {ρ : am_R} {g : am_J} {τ : am_T} {Q : am_Q} {x0 x1 x2 x3 : Value} {v w : Int32} : AW d 253 35 [x0, x1, x2, x3] (.int w :: .int v :: st) σ ρ g τ Q = if ¬ v = w then AW d 253 47 [x0, x1, x2, x3] (st) σ ρ g τ Q else AW d 253 38 [x0, x1, x2, x3] (st) σ ρ g τ Q := aw_br m253 d253_35 rfl rfl rfl
theorem d253_38 : decode cX12_shelf 38 = .ok (.aload_n 0, 1) := by decide +kernel
theorem s253_38 {d : Nat} {st : List Value} {σ : am_I} {ρ : am_R} {g : am_J} {τ : am_T} {Q : am_Q} {x1 x2 x3 : Value} {v : Nat} : AW d 253 38 [.ref v, x1, x2, x3] (st) σ ρ g τ Q = AW d 253 39 [.ref v, x1, x2, x3] (.ref v :: st) σ ρ g τ Q := aw_lc m253 d253_38 rfl rfl rfl
theorem d253_39 : decode cX12_shelf 39 = .ok (.iconst 5, 1) := by decide +kernel
theorem s253_39 {d : Nat} {st : List Value} {σ : am_I} {ρ : am_R} {g : am_J} {τ : am_T} {Q : am_Q} {x0 x1 x2 x3 : Value} : AW d 253 39 [x0, x1, x2, x3] (st) σ ρ g τ Q = AW d 253 40 [x0, x1, x2, x3] (.int 5 :: st) σ ρ g τ Q := aw_lc m253 d253_39 rfl rfl rfl
theorem d253_40 : decode cX12_shelf 40 = .ok (.iload_n 3, 1) := by decide +kernel
theorem s253_40 {d : Nat} {st : List Value} {σ : am_I} {ρ : am_R} {g : am_J} {τ : am_T} {Q : am_Q} {x0 x1 x2 : Value} {v : Int32} : AW d 253 40 [x0, x1, x2, .int v] (st) σ ρ g τ Q = AW d 253 41 [x0, x1, x2, .int v] (.int v :: st) σ ρ g τ Q := aw_lc m253 d253_40 rfl rfl rfl
theorem d253_41 : decode cX12_shelf 41 = .ok (.invokevirtual 210, 3) := by decide +kernel
theorem s253_41 {d : Nat} {st : List Value} {σ : am_I} {ρ : am_R} {g : am_J} {τ : am_T} {Q : am_Q} {x0 x1 x2 x3 : Value} {p0 : Nat} {p1 : Int32} {p2 : Int32} (ht : τ.1 p0 = 12) (hs : st.length ≤ 4) : AW (d + 1) 253 41 [x0, x1, x2, x3] (.int p2 :: .int p1 :: .ref p0 :: st) σ ρ g τ Q = AW d 167 0 [.ref p0, .int p1, .int p2] [] σ ρ g τ (fun r9 σ ρ g τ => AW (d + 1) 253 44 [x0, x1, x2, x3] (r9.toList ++ st) σ ρ g τ Q) := aw_cv m253 d253_41 rfl m167 rfl rfl (by decide) en167 ok167 rfl ht hs
theorem d253_44 : decode cX12_shelf 44 = .ok (.ifCond .eq 17, 3) := by decide +kernel
theorem s253_44 {d : Nat} {st : List Value} {σ : am_I} {ρ : am_R} {g : am_J} {τ : am_T} {Q : am_Q} {x0 x1 x2 x3 : Value} {v : Int32} : AW d 253 44 [x0, x1, x2, x3] (.int v :: st) σ ρ g τ Q = if v = 0 then AW d 253 61 [x0, x1, x2, x3] (st) σ ρ g τ Q else AW d 253 47 [x0, x1, x2, x3] (st) σ ρ g τ Q := aw_br m253 d253_44 rfl rfl rfl
theorem d253_47 : decode cX12_shelf 47 = .ok (.iload_n 2, 1) := by decide +kernel
theorem s253_47 {d : Nat} {st : List Value} {σ : am_I} {ρ : am_R} {g : am_J} {τ : am_T} {Q : am_Q} {x0 x1 x3 : Value} {v : Int32} : AW d 253 47 [x0, x1, .int v, x3] (st) σ ρ g τ Q = AW d 253 48 [x0, x1, .int v, x3] (.int v :: st) σ ρ g τ Q := aw_lc m253 d253_47 rfl rfl rfl
theorem d253_48 : decode cX12_shelf 48 = .ok (.iconst 2, 1) := by decide +kernel
theorem s253_48 {d : Nat} {st : List Value} {σ : am_I} {ρ : am_R} {g : am_J} {τ : am_T} {Q : am_Q} {x0 x1 x2 x3 : Value} : AW d 253 48 [x0, x1, x2, x3] (st) σ ρ g τ Q = AW d 253 49 [x0, x1, x2, x3] (.int 2 :: st) σ ρ g τ Q := aw_lc m253 d253_48 rfl rfl rfl
theorem d253_49 : decode cX12_shelf 49 = .ok (.if_icmp .ne 14, 3) := by decide +kernel
theorem s253_49 {d : Nat} {st : List Value} {σ : am_I} {ρ : am_R} {g : am_J} {τ : am_T} {Q : am_Q} {x0 x1 x2 x3 : Value} {v w : Int32} : AW d 253 49 [x0, x1, x2, x3] (.int w :: .int v :: st) σ ρ g τ Q = if ¬ v = w then AW d 253 63 [x0, x1, x2, x3] (st) σ ρ g τ Q else AW d 253 52 [x0, x1, x2, x3] (st) σ ρ g τ Q := aw_br m253 d253_49 rfl rfl rfl
theorem d253_52 : decode cX12_shelf 52 = .ok (.iload_n 3, 1) := by decide +kernel
theorem s253_52 {d : Nat} {st : List Value} {σ : am_I} {ρ : am_R} {g : am_J} {τ : am_T} {Q : am_Q} {x0 x1 x2 : Value} {v : Int32} : AW d 253 52 [x0, x1, x2, .int v] (st) σ ρ g τ Q = AW d 253 53 [x0, x1, x2, .int v] (.int v :: st) σ ρ g τ Q := aw_lc m253 d253_52 rfl rfl rfl
theorem d253_53 : decode cX12_shelf 53 = .ok (.iconst 0, 1) := by decide +kernel
theorem s253_53 {d : Nat} {st : List Value} {σ : am_I} {ρ : am_R} {g : am_J} {τ : am_T} {Q : am_Q} {x0 x1 x2 x3 : Value} : AW d 253 53 [x0, x1, x2, x3] (st) σ ρ g τ Q = AW d 253 54 [x0, x1, x2, x3] (.int 0 :: st) σ ρ g τ Q := aw_lc m253 d253_53 rfl rfl rfl
theorem d253_54 : decode cX12_shelf 54 = .ok (.iconst 3, 1) := by decide +kernel
theorem s253_54 {d : Nat} {st : List Value} {σ : am_I} {ρ : am_R} {g : am_J} {τ : am_T} {Q : am_Q} {x0 x1 x2 x3 : Value} : AW d 253 54 [x0, x1, x2, x3] (st) σ ρ g τ Q = AW d 253 55 [x0, x1, x2, x3] (.int 3 :: st) σ ρ g τ Q := aw_lc m253 d253_54 rfl rfl rfl
theorem d253_55 : decode cX12_shelf 55 = .ok (.invokestatic 194, 3) := by decide +kernel
theorem s253_55 {d : Nat} {st : List Value} {σ : am_I} {ρ : am_R} {g : am_J} {τ : am_T} {Q : am_Q} {x0 x1 x2 x3 : Value} {p0 : Int32} {p1 : Int32} {p2 : Int32} (hs : st.length ≤ 4) : AW (d + 1) 253 55 [x0, x1, x2, x3] (.int p2 :: .int p1 :: .int p0 :: st) σ ρ g τ Q = AW d 165 0 [.int p0, .int p1, .int p2] [] σ ρ g τ (fun r9 σ ρ g τ => AW (d + 1) 253 58 [x0, x1, x2, x3] (r9.toList ++ st) σ ρ g τ Q) := aw_cs m253 d253_55 rfl (by simp only [List.length_cons]; omega) rfl rfl en165 ok165 rfl hs
theorem d253_58 : decode cX12_shelf 58 = .ok (.ifCond .ne 5, 3) := by decide +kernel
theorem s253_58 {d : Nat} {st : List Value} {σ : am_I} {ρ : am_R} {g : am_J} {τ : am_T} {Q : am_Q} {x0 x1 x2 x3 : Value} {v : Int32} : AW d 253 58 [x0, x1, x2, x3] (.int v :: st) σ ρ g τ Q = if ¬ v = 0 then AW d 253 63 [x0, x1, x2, x3] (st) σ ρ g τ Q else AW d 253 61 [x0, x1, x2, x3] (st) σ ρ g τ Q := aw_br m253 d253_58 rfl rfl rfl
theorem d253_61 : decode cX12_shelf 61 = .ok (.iconst (-1), 1) := by decide +kernel
theorem s253_61 {d : Nat} {st : List Value} {σ : am_I} {ρ : am_R} {g : am_J} {τ : am_T} {Q : am_Q} {x0 x1 x2 x3 : Value} : AW d 253 61 [x0, x1, x2, x3] (st) σ ρ g τ Q = AW d 253 62 [x0, x1, x2, x3] (.int (-1) :: st) σ ρ g τ Q := aw_lc m253 d253_61 rfl rfl rfl
theorem d253_62 : decode cX12_shelf 62 = .ok (.ireturn, 1) := by decide +kernel
theorem s253_62 {d : Nat} {σ : am_I} {ρ : am_R} {g : am_J} {τ : am_T} {Q : am_Q} {x0 x1 x2 x3 : Value} {v : Int32} : AW d 253 62 [x0, x1, x2, x3] ([.int v]) σ ρ g τ Q = Q (some (.int v)) σ ρ g τ := aw_ri m253 d253_62 rfl
theorem d253_63 : decode cX12_shelf 63 = .ok (.iload_n 2, 1) := by decide +kernel
theorem s253_63 {d : Nat} {st : List Value} {σ : am_I} {ρ : am_R} {g : am_J} {τ : am_T} {Q : am_Q} {x0 x1 x3 : Value} {v : Int32} : AW d 253 63 [x0, x1, .int v, x3] (st) σ ρ g τ Q = AW d 253 64 [x0, x1, .int v, x3] (.int v :: st) σ ρ g τ Q := aw_lc m253 d253_63 rfl rfl rfl
theorem d253_64 : decode cX12_shelf 64 = .ok (.iconst 2, 1) := by decide +kernel
theorem s253_64 {d : Nat} {st : List Value} {σ : am_I} {ρ : am_R} {g : am_J} {τ : am_T} {Q : am_Q} {x0 x1 x2 x3 : Value} : AW d 253 64 [x0, x1, x2, x3] (st) σ ρ g τ Q = AW d 253 65 [x0, x1, x2, x3] (.int 2 :: st) σ ρ g τ Q := aw_lc m253 d253_64 rfl rfl rfl
theorem d253_65 : decode cX12_shelf 65 = .ok (.if_icmp .ne 22, 3) := by decide +kernel
theorem s253_65 {d : Nat} {st : List Value} {σ : am_I} {ρ : am_R} {g : am_J} {τ : am_T} {Q : am_Q} {x0 x1 x2 x3 : Value} {v w : Int32} : AW d 253 65 [x0, x1, x2, x3] (.int w :: .int v :: st) σ ρ g τ Q = if ¬ v = w then AW d 253 87 [x0, x1, x2, x3] (st) σ ρ g τ Q else AW d 253 68 [x0, x1, x2, x3] (st) σ ρ g τ Q := aw_br m253 d253_65 rfl rfl rfl
theorem d253_68 : decode cX12_shelf 68 = .ok (.aload_n 0, 1) := by decide +kernel
theorem s253_68 {d : Nat} {st : List Value} {σ : am_I} {ρ : am_R} {g : am_J} {τ : am_T} {Q : am_Q} {x1 x2 x3 : Value} {v : Nat} : AW d 253 68 [.ref v, x1, x2, x3] (st) σ ρ g τ Q = AW d 253 69 [.ref v, x1, x2, x3] (.ref v :: st) σ ρ g τ Q := aw_lc m253 d253_68 rfl rfl rfl
theorem d253_69 : decode cX12_shelf 69 = .ok (.getfield 151, 3) := by decide +kernel
theorem s253_69 {d : Nat} {st : List Value} {σ : am_I} {ρ : am_R} {g : am_J} {τ : am_T} {Q : am_Q} {x0 x1 x2 x3 : Value} {a : Nat} (ht : τ.1 a = 12) : AW d 253 69 [x0, x1, x2, x3] (.ref a :: st) σ ρ g τ Q = AW d 253 72 [x0, x1, x2, x3] (va_rf (ρ a 49) :: st) σ ρ g τ Q := aw_gr m253 d253_69 rfl rfl rfl ht
theorem d253_72 : decode cX12_shelf 72 = .ok (.iload_n 3, 1) := by decide +kernel
theorem s253_72 {d : Nat} {st : List Value} {σ : am_I} {ρ : am_R} {g : am_J} {τ : am_T} {Q : am_Q} {x0 x1 x2 : Value} {v : Int32} : AW d 253 72 [x0, x1, x2, .int v] (st) σ ρ g τ Q = AW d 253 73 [x0, x1, x2, .int v] (.int v :: st) σ ρ g τ Q := aw_lc m253 d253_72 rfl rfl rfl
theorem d253_73 : decode cX12_shelf 73 = .ok (.iaload, 1) := by decide +kernel
theorem s253_73 {d : Nat} {st : List Value} {σ : am_I} {ρ : am_R} {g : am_J} {τ : am_T} {Q : am_Q} {x0 x1 x2 x3 : Value} {a : Nat} {j : Int32} (ht : τ.1 a = 15) (hj : am_inb j (τ.2.1 a) = true) : AW d 253 73 [x0, x1, x2, x3] (.int j :: .ref a :: st) σ ρ g τ Q = AW d 253 74 [x0, x1, x2, x3] (.int (σ a j.toNatClampNeg) :: st) σ ρ g τ Q := aw_ial m253 d253_73 rfl ht hj
theorem d253_74 : decode cX12_shelf 74 = .ok (.ifCond .ge 13, 3) := by decide +kernel
theorem s253_74 {d : Nat} {st : List Value} {σ : am_I} {ρ : am_R} {g : am_J} {τ : am_T} {Q : am_Q} {x0 x1 x2 x3 : Value} {v : Int32} : AW d 253 74 [x0, x1, x2, x3] (.int v :: st) σ ρ g τ Q = if 0 ≤ v then AW d 253 87 [x0, x1, x2, x3] (st) σ ρ g τ Q else AW d 253 77 [x0, x1, x2, x3] (st) σ ρ g τ Q := aw_br m253 d253_74 rfl rfl rfl
theorem d253_77 : decode cX12_shelf 77 = .ok (.aload_n 0, 1) := by decide +kernel
theorem s253_77 {d : Nat} {st : List Value} {σ : am_I} {ρ : am_R} {g : am_J} {τ : am_T} {Q : am_Q} {x1 x2 x3 : Value} {v : Nat} : AW d 253 77 [.ref v, x1, x2, x3] (st) σ ρ g τ Q = AW d 253 78 [.ref v, x1, x2, x3] (.ref v :: st) σ ρ g τ Q := aw_lc m253 d253_77 rfl rfl rfl
theorem d253_78 : decode cX12_shelf 78 = .ok (.getfield 157, 3) := by decide +kernel
theorem s253_78 {d : Nat} {st : List Value} {σ : am_I} {ρ : am_R} {g : am_J} {τ : am_T} {Q : am_Q} {x0 x1 x2 x3 : Value} {a : Nat} (ht : τ.1 a = 12) : AW d 253 78 [x0, x1, x2, x3] (.ref a :: st) σ ρ g τ Q = AW d 253 81 [x0, x1, x2, x3] (va_rf (ρ a 51) :: st) σ ρ g τ Q := aw_gr m253 d253_78 rfl rfl rfl ht
theorem d253_81 : decode cX12_shelf 81 = .ok (.iload_n 1, 1) := by decide +kernel
theorem s253_81 {d : Nat} {st : List Value} {σ : am_I} {ρ : am_R} {g : am_J} {τ : am_T} {Q : am_Q} {x0 x2 x3 : Value} {v : Int32} : AW d 253 81 [x0, .int v, x2, x3] (st) σ ρ g τ Q = AW d 253 82 [x0, .int v, x2, x3] (.int v :: st) σ ρ g τ Q := aw_lc m253 d253_81 rfl rfl rfl
theorem d253_82 : decode cX12_shelf 82 = .ok (.iconst 3, 1) := by decide +kernel
theorem s253_82 {d : Nat} {st : List Value} {σ : am_I} {ρ : am_R} {g : am_J} {τ : am_T} {Q : am_Q} {x0 x1 x2 x3 : Value} : AW d 253 82 [x0, x1, x2, x3] (st) σ ρ g τ Q = AW d 253 83 [x0, x1, x2, x3] (.int 3 :: st) σ ρ g τ Q := aw_lc m253 d253_82 rfl rfl rfl
theorem d253_83 : decode cX12_shelf 83 = .ok (.iastore, 1) := by decide +kernel
theorem s253_83 {d : Nat} {st : List Value} {σ : am_I} {ρ : am_R} {g : am_J} {τ : am_T} {Q : am_Q} {x0 x1 x2 x3 : Value} {a : Nat} {j v : Int32} (ht : τ.1 a = 15) (ha : a < am_BG) (hj : am_inb j (τ.2.1 a) = true) : AW d 253 83 [x0, x1, x2, x3] (.int v :: .int j :: .ref a :: st) σ ρ g τ Q = AW d 253 84 [x0, x1, x2, x3] (st) (am_u σ a j.toNatClampNeg v) ρ g τ Q := aw_ias m253 d253_83 rfl ht ha hj
theorem d253_84 : decode cX12_shelf 84 = .ok (.goto 52, 3) := by decide +kernel
theorem s253_84 {d : Nat} {st : List Value} {σ : am_I} {ρ : am_R} {g : am_J} {τ : am_T} {Q : am_Q} {x0 x1 x2 x3 : Value} : AW d 253 84 [x0, x1, x2, x3] (st) σ ρ g τ Q = AW d 253 136 [x0, x1, x2, x3] (st) σ ρ g τ Q := aw_lc m253 d253_84 rfl rfl rfl
theorem d253_87 : decode cX12_shelf 87 = .ok (.aload_n 0, 1) := by decide +kernel
theorem s253_87 {d : Nat} {st : List Value} {σ : am_I} {ρ : am_R} {g : am_J} {τ : am_T} {Q : am_Q} {x1 x2 x3 : Value} {v : Nat} : AW d 253 87 [.ref v, x1, x2, x3] (st) σ ρ g τ Q = AW d 253 88 [.ref v, x1, x2, x3] (.ref v :: st) σ ρ g τ Q := aw_lc m253 d253_87 rfl rfl rfl
theorem d253_88 : decode cX12_shelf 88 = .ok (.getfield 157, 3) := by decide +kernel
theorem s253_88 {d : Nat} {st : List Value} {σ : am_I} {ρ : am_R} {g : am_J} {τ : am_T} {Q : am_Q} {x0 x1 x2 x3 : Value} {a : Nat} (ht : τ.1 a = 12) : AW d 253 88 [x0, x1, x2, x3] (.ref a :: st) σ ρ g τ Q = AW d 253 91 [x0, x1, x2, x3] (va_rf (ρ a 51) :: st) σ ρ g τ Q := aw_gr m253 d253_88 rfl rfl rfl ht
theorem d253_91 : decode cX12_shelf 91 = .ok (.iload_n 1, 1) := by decide +kernel
theorem s253_91 {d : Nat} {st : List Value} {σ : am_I} {ρ : am_R} {g : am_J} {τ : am_T} {Q : am_Q} {x0 x2 x3 : Value} {v : Int32} : AW d 253 91 [x0, .int v, x2, x3] (st) σ ρ g τ Q = AW d 253 92 [x0, .int v, x2, x3] (.int v :: st) σ ρ g τ Q := aw_lc m253 d253_91 rfl rfl rfl
theorem d253_92 : decode cX12_shelf 92 = .ok (.iload_n 2, 1) := by decide +kernel
theorem s253_92 {d : Nat} {st : List Value} {σ : am_I} {ρ : am_R} {g : am_J} {τ : am_T} {Q : am_Q} {x0 x1 x3 : Value} {v : Int32} : AW d 253 92 [x0, x1, .int v, x3] (st) σ ρ g τ Q = AW d 253 93 [x0, x1, .int v, x3] (.int v :: st) σ ρ g τ Q := aw_lc m253 d253_92 rfl rfl rfl
theorem d253_93 : decode cX12_shelf 93 = .ok (.iastore, 1) := by decide +kernel
theorem s253_93 {d : Nat} {st : List Value} {σ : am_I} {ρ : am_R} {g : am_J} {τ : am_T} {Q : am_Q} {x0 x1 x2 x3 : Value} {a : Nat} {j v : Int32} (ht : τ.1 a = 15) (ha : a < am_BG) (hj : am_inb j (τ.2.1 a) = true) : AW d 253 93 [x0, x1, x2, x3] (.int v :: .int j :: .ref a :: st) σ ρ g τ Q = AW d 253 94 [x0, x1, x2, x3] (st) (am_u σ a j.toNatClampNeg v) ρ g τ Q := aw_ias m253 d253_93 rfl ht ha hj
theorem d253_94 : decode cX12_shelf 94 = .ok (.aload_n 0, 1) := by decide +kernel
theorem s253_94 {d : Nat} {st : List Value} {σ : am_I} {ρ : am_R} {g : am_J} {τ : am_T} {Q : am_Q} {x1 x2 x3 : Value} {v : Nat} : AW d 253 94 [.ref v, x1, x2, x3] (st) σ ρ g τ Q = AW d 253 95 [.ref v, x1, x2, x3] (.ref v :: st) σ ρ g τ Q := aw_lc m253 d253_94 rfl rfl rfl
theorem d253_95 : decode cX12_shelf 95 = .ok (.getfield 160, 3) := by decide +kernel
theorem s253_95 {d : Nat} {st : List Value} {σ : am_I} {ρ : am_R} {g : am_J} {τ : am_T} {Q : am_Q} {x0 x1 x2 x3 : Value} {a : Nat} (ht : τ.1 a = 12) : AW d 253 95 [x0, x1, x2, x3] (.ref a :: st) σ ρ g τ Q = AW d 253 98 [x0, x1, x2, x3] (va_rf (ρ a 52) :: st) σ ρ g τ Q := aw_gr m253 d253_95 rfl rfl rfl ht
theorem d253_98 : decode cX12_shelf 98 = .ok (.iload_n 1, 1) := by decide +kernel
theorem s253_98 {d : Nat} {st : List Value} {σ : am_I} {ρ : am_R} {g : am_J} {τ : am_T} {Q : am_Q} {x0 x2 x3 : Value} {v : Int32} : AW d 253 98 [x0, .int v, x2, x3] (st) σ ρ g τ Q = AW d 253 99 [x0, .int v, x2, x3] (.int v :: st) σ ρ g τ Q := aw_lc m253 d253_98 rfl rfl rfl
theorem d253_99 : decode cX12_shelf 99 = .ok (.iload_n 2, 1) := by decide +kernel
theorem s253_99 {d : Nat} {st : List Value} {σ : am_I} {ρ : am_R} {g : am_J} {τ : am_T} {Q : am_Q} {x0 x1 x3 : Value} {v : Int32} : AW d 253 99 [x0, x1, .int v, x3] (st) σ ρ g τ Q = AW d 253 100 [x0, x1, .int v, x3] (.int v :: st) σ ρ g τ Q := aw_lc m253 d253_99 rfl rfl rfl
theorem d253_100 : decode cX12_shelf 100 = .ok (.iconst 2, 1) := by decide +kernel
theorem s253_100 {d : Nat} {st : List Value} {σ : am_I} {ρ : am_R} {g : am_J} {τ : am_T} {Q : am_Q} {x0 x1 x2 x3 : Value} : AW d 253 100 [x0, x1, x2, x3] (st) σ ρ g τ Q = AW d 253 101 [x0, x1, x2, x3] (.int 2 :: st) σ ρ g τ Q := aw_lc m253 d253_100 rfl rfl rfl
theorem d253_101 : decode cX12_shelf 101 = .ok (.if_icmp .ne 12, 3) := by decide +kernel
theorem s253_101 {d : Nat} {st : List Value} {σ : am_I} {ρ : am_R} {g : am_J} {τ : am_T} {Q : am_Q} {x0 x1 x2 x3 : Value} {v w : Int32} : AW d 253 101 [x0, x1, x2, x3] (.int w :: .int v :: st) σ ρ g τ Q = if ¬ v = w then AW d 253 113 [x0, x1, x2, x3] (st) σ ρ g τ Q else AW d 253 104 [x0, x1, x2, x3] (st) σ ρ g τ Q := aw_br m253 d253_101 rfl rfl rfl
theorem d253_104 : decode cX12_shelf 104 = .ok (.aload_n 0, 1) := by decide +kernel
theorem s253_104 {d : Nat} {st : List Value} {σ : am_I} {ρ : am_R} {g : am_J} {τ : am_T} {Q : am_Q} {x1 x2 x3 : Value} {v : Nat} : AW d 253 104 [.ref v, x1, x2, x3] (st) σ ρ g τ Q = AW d 253 105 [.ref v, x1, x2, x3] (.ref v :: st) σ ρ g τ Q := aw_lc m253 d253_104 rfl rfl rfl
theorem d253_105 : decode cX12_shelf 105 = .ok (.getfield 151, 3) := by decide +kernel
theorem s253_105 {d : Nat} {st : List Value} {σ : am_I} {ρ : am_R} {g : am_J} {τ : am_T} {Q : am_Q} {x0 x1 x2 x3 : Value} {a : Nat} (ht : τ.1 a = 12) : AW d 253 105 [x0, x1, x2, x3] (.ref a :: st) σ ρ g τ Q = AW d 253 108 [x0, x1, x2, x3] (va_rf (ρ a 49) :: st) σ ρ g τ Q := aw_gr m253 d253_105 rfl rfl rfl ht
theorem d253_108 : decode cX12_shelf 108 = .ok (.iload_n 3, 1) := by decide +kernel
theorem s253_108 {d : Nat} {st : List Value} {σ : am_I} {ρ : am_R} {g : am_J} {τ : am_T} {Q : am_Q} {x0 x1 x2 : Value} {v : Int32} : AW d 253 108 [x0, x1, x2, .int v] (st) σ ρ g τ Q = AW d 253 109 [x0, x1, x2, .int v] (.int v :: st) σ ρ g τ Q := aw_lc m253 d253_108 rfl rfl rfl
theorem d253_109 : decode cX12_shelf 109 = .ok (.iaload, 1) := by decide +kernel
theorem s253_109 {d : Nat} {st : List Value} {σ : am_I} {ρ : am_R} {g : am_J} {τ : am_T} {Q : am_Q} {x0 x1 x2 x3 : Value} {a : Nat} {j : Int32} (ht : τ.1 a = 15) (hj : am_inb j (τ.2.1 a) = true) : AW d 253 109 [x0, x1, x2, x3] (.int j :: .ref a :: st) σ ρ g τ Q = AW d 253 110 [x0, x1, x2, x3] (.int (σ a j.toNatClampNeg) :: st) σ ρ g τ Q := aw_ial m253 d253_109 rfl ht hj
theorem d253_110 : decode cX12_shelf 110 = .ok (.goto 4, 3) := by decide +kernel
theorem s253_110 {d : Nat} {st : List Value} {σ : am_I} {ρ : am_R} {g : am_J} {τ : am_T} {Q : am_Q} {x0 x1 x2 x3 : Value} : AW d 253 110 [x0, x1, x2, x3] (st) σ ρ g τ Q = AW d 253 114 [x0, x1, x2, x3] (st) σ ρ g τ Q := aw_lc m253 d253_110 rfl rfl rfl
theorem d253_113 : decode cX12_shelf 113 = .ok (.iload_n 3, 1) := by decide +kernel
theorem s253_113 {d : Nat} {st : List Value} {σ : am_I} {ρ : am_R} {g : am_J} {τ : am_T} {Q : am_Q} {x0 x1 x2 : Value} {v : Int32} : AW d 253 113 [x0, x1, x2, .int v] (st) σ ρ g τ Q = AW d 253 114 [x0, x1, x2, .int v] (.int v :: st) σ ρ g τ Q := aw_lc m253 d253_113 rfl rfl rfl
theorem d253_114 : decode cX12_shelf 114 = .ok (.iastore, 1) := by decide +kernel
theorem s253_114 {d : Nat} {st : List Value} {σ : am_I} {ρ : am_R} {g : am_J} {τ : am_T} {Q : am_Q} {x0 x1 x2 x3 : Value} {a : Nat} {j v : Int32} (ht : τ.1 a = 15) (ha : a < am_BG) (hj : am_inb j (τ.2.1 a) = true) : AW d 253 114 [x0, x1, x2, x3] (.int v :: .int j :: .ref a :: st) σ ρ g τ Q = AW d 253 115 [x0, x1, x2, x3] (st) (am_u σ a j.toNatClampNeg v) ρ g τ Q := aw_ias m253 d253_114 rfl ht ha hj
theorem d253_115 : decode cX12_shelf 115 = .ok (.aload_n 0, 1) := by decide +kernel
theorem s253_115 {d : Nat} {st : List Value} {σ : am_I} {ρ : am_R} {g : am_J} {τ : am_T} {Q : am_Q} {x1 x2 x3 : Value} {v : Nat} : AW d 253 115 [.ref v, x1, x2, x3] (st) σ ρ g τ Q = AW d 253 116 [.ref v, x1, x2, x3] (.ref v :: st) σ ρ g τ Q := aw_lc m253 d253_115 rfl rfl rfl
theorem d253_116 : decode cX12_shelf 116 = .ok (.getfield 163, 3) := by decide +kernel
theorem s253_116 {d : Nat} {st : List Value} {σ : am_I} {ρ : am_R} {g : am_J} {τ : am_T} {Q : am_Q} {x0 x1 x2 x3 : Value} {a : Nat} (ht : τ.1 a = 12) : AW d 253 116 [x0, x1, x2, x3] (.ref a :: st) σ ρ g τ Q = AW d 253 119 [x0, x1, x2, x3] (va_rf (ρ a 53) :: st) σ ρ g τ Q := aw_gr m253 d253_116 rfl rfl rfl ht
theorem d253_119 : decode cX12_shelf 119 = .ok (.iload_n 1, 1) := by decide +kernel
theorem s253_119 {d : Nat} {st : List Value} {σ : am_I} {ρ : am_R} {g : am_J} {τ : am_T} {Q : am_Q} {x0 x2 x3 : Value} {v : Int32} : AW d 253 119 [x0, .int v, x2, x3] (st) σ ρ g τ Q = AW d 253 120 [x0, .int v, x2, x3] (.int v :: st) σ ρ g τ Q := aw_lc m253 d253_119 rfl rfl rfl
theorem d253_120 : decode cX12_shelf 120 = .ok (.iload_n 2, 1) := by decide +kernel
theorem s253_120 {d : Nat} {st : List Value} {σ : am_I} {ρ : am_R} {g : am_J} {τ : am_T} {Q : am_Q} {x0 x1 x3 : Value} {v : Int32} : AW d 253 120 [x0, x1, .int v, x3] (st) σ ρ g τ Q = AW d 253 121 [x0, x1, .int v, x3] (.int v :: st) σ ρ g τ Q := aw_lc m253 d253_120 rfl rfl rfl
theorem d253_121 : decode cX12_shelf 121 = .ok (.iconst 2, 1) := by decide +kernel
theorem s253_121 {d : Nat} {st : List Value} {σ : am_I} {ρ : am_R} {g : am_J} {τ : am_T} {Q : am_Q} {x0 x1 x2 x3 : Value} : AW d 253 121 [x0, x1, x2, x3] (st) σ ρ g τ Q = AW d 253 122 [x0, x1, x2, x3] (.int 2 :: st) σ ρ g τ Q := aw_lc m253 d253_121 rfl rfl rfl
theorem d253_122 : decode cX12_shelf 122 = .ok (.if_icmp .ne 12, 3) := by decide +kernel
theorem s253_122 {d : Nat} {st : List Value} {σ : am_I} {ρ : am_R} {g : am_J} {τ : am_T} {Q : am_Q} {x0 x1 x2 x3 : Value} {v w : Int32} : AW d 253 122 [x0, x1, x2, x3] (.int w :: .int v :: st) σ ρ g τ Q = if ¬ v = w then AW d 253 134 [x0, x1, x2, x3] (st) σ ρ g τ Q else AW d 253 125 [x0, x1, x2, x3] (st) σ ρ g τ Q := aw_br m253 d253_122 rfl rfl rfl
theorem d253_125 : decode cX12_shelf 125 = .ok (.aload_n 0, 1) := by decide +kernel
theorem s253_125 {d : Nat} {st : List Value} {σ : am_I} {ρ : am_R} {g : am_J} {τ : am_T} {Q : am_Q} {x1 x2 x3 : Value} {v : Nat} : AW d 253 125 [.ref v, x1, x2, x3] (st) σ ρ g τ Q = AW d 253 126 [.ref v, x1, x2, x3] (.ref v :: st) σ ρ g τ Q := aw_lc m253 d253_125 rfl rfl rfl
theorem d253_126 : decode cX12_shelf 126 = .ok (.getfield 154, 3) := by decide +kernel
theorem s253_126 {d : Nat} {st : List Value} {σ : am_I} {ρ : am_R} {g : am_J} {τ : am_T} {Q : am_Q} {x0 x1 x2 x3 : Value} {a : Nat} (ht : τ.1 a = 12) : AW d 253 126 [x0, x1, x2, x3] (.ref a :: st) σ ρ g τ Q = AW d 253 129 [x0, x1, x2, x3] (va_rf (ρ a 50) :: st) σ ρ g τ Q := aw_gr m253 d253_126 rfl rfl rfl ht
theorem d253_129 : decode cX12_shelf 129 = .ok (.iload_n 3, 1) := by decide +kernel
theorem s253_129 {d : Nat} {st : List Value} {σ : am_I} {ρ : am_R} {g : am_J} {τ : am_T} {Q : am_Q} {x0 x1 x2 : Value} {v : Int32} : AW d 253 129 [x0, x1, x2, .int v] (st) σ ρ g τ Q = AW d 253 130 [x0, x1, x2, .int v] (.int v :: st) σ ρ g τ Q := aw_lc m253 d253_129 rfl rfl rfl
theorem d253_130 : decode cX12_shelf 130 = .ok (.iaload, 1) := by decide +kernel
theorem s253_130 {d : Nat} {st : List Value} {σ : am_I} {ρ : am_R} {g : am_J} {τ : am_T} {Q : am_Q} {x0 x1 x2 x3 : Value} {a : Nat} {j : Int32} (ht : τ.1 a = 15) (hj : am_inb j (τ.2.1 a) = true) : AW d 253 130 [x0, x1, x2, x3] (.int j :: .ref a :: st) σ ρ g τ Q = AW d 253 131 [x0, x1, x2, x3] (.int (σ a j.toNatClampNeg) :: st) σ ρ g τ Q := aw_ial m253 d253_130 rfl ht hj
theorem d253_131 : decode cX12_shelf 131 = .ok (.goto 4, 3) := by decide +kernel
theorem s253_131 {d : Nat} {st : List Value} {σ : am_I} {ρ : am_R} {g : am_J} {τ : am_T} {Q : am_Q} {x0 x1 x2 x3 : Value} : AW d 253 131 [x0, x1, x2, x3] (st) σ ρ g τ Q = AW d 253 135 [x0, x1, x2, x3] (st) σ ρ g τ Q := aw_lc m253 d253_131 rfl rfl rfl
theorem d253_134 : decode cX12_shelf 134 = .ok (.iconst 0, 1) := by decide +kernel
theorem s253_134 {d : Nat} {st : List Value} {σ : am_I} {ρ : am_R} {g : am_J} {τ : am_T} {Q : am_Q} {x0 x1 x2 x3 : Value} : AW d 253 134 [x0, x1, x2, x3] (st) σ ρ g τ Q = AW d 253 135 [x0, x1, x2, x3] (.int 0 :: st) σ ρ g τ Q := aw_lc m253 d253_134 rfl rfl rfl
theorem d253_135 : decode cX12_shelf 135 = .ok (.iastore, 1) := by decide +kernel
theorem s253_135 {d : Nat} {st : List Value} {σ : am_I} {ρ : am_R} {g : am_J} {τ : am_T} {Q : am_Q} {x0 x1 x2 x3 : Value} {a : Nat} {j v : Int32} (ht : τ.1 a = 15) (ha : a < am_BG) (hj : am_inb j (τ.2.1 a) = true) : AW d 253 135 [x0, x1, x2, x3] (.int v :: .int j :: .ref a :: st) σ ρ g τ Q = AW d 253 136 [x0, x1, x2, x3] (st) (am_u σ a j.toNatClampNeg v) ρ g τ Q := aw_ias m253 d253_135 rfl ht ha hj
theorem d253_136 : decode cX12_shelf 136 = .ok (.iconst 1, 1) := by decide +kernel
theorem s253_136 {d : Nat} {st : List Value} {σ : am_I} {ρ : am_R} {g : am_J} {τ : am_T} {Q : am_Q} {x0 x1 x2 x3 : Value} : AW d 253 136 [x0, x1, x2, x3] (st) σ ρ g τ Q = AW d 253 137 [x0, x1, x2, x3] (.int 1 :: st) σ ρ g τ Q := aw_lc m253 d253_136 rfl rfl rfl
theorem d253_137 : decode cX12_shelf 137 = .ok (.ireturn, 1) := by decide +kernel
theorem s253_137 {d : Nat} {σ : am_I} {ρ : am_R} {g : am_J} {τ : am_T} {Q : am_Q} {x0 x1 x2 x3 : Value} {v : Int32} : AW d 253 137 [x0, x1, x2, x3] ([.int v]) σ ρ g τ Q = Q (some (.int v)) σ ρ g τ := aw_ri m253 d253_137 rfl
theorem d254_0 : decode cX12_kindOn 0 = .ok (.aload_n 0, 1) := by decide +kernel
theorem s254_0 {d : Nat} {st : List Value} {σ : am_I} {ρ : am_R} {g : am_J} {τ : am_T} {Q : am_Q} {x1 x2 : Value} {v : Nat} : AW d 254 0 [.ref v, x1, x2] (st) σ ρ g τ Q = AW d 254 1 [.ref v, x1, x2] (.ref v :: st) σ ρ g τ Q := aw_lc m254 d254_0 rfl rfl rfl
theorem d254_1 : decode cX12_kindOn 1 = .ok (.getfield 160, 3) := by decide +kernel
theorem s254_1 {d : Nat} {st : List Value} {σ : am_I} {ρ : am_R} {g : am_J} {τ : am_T} {Q : am_Q} {x0 x1 x2 : Value} {a : Nat} (ht : τ.1 a = 12) : AW d 254 1 [x0, x1, x2] (.ref a :: st) σ ρ g τ Q = AW d 254 4 [x0, x1, x2] (va_rf (ρ a 52) :: st) σ ρ g τ Q := aw_gr m254 d254_1 rfl rfl rfl ht
theorem d254_4 : decode cX12_kindOn 4 = .ok (.iload_n 1, 1) := by decide +kernel
theorem s254_4 {d : Nat} {st : List Value} {σ : am_I} {ρ : am_R} {g : am_J} {τ : am_T} {Q : am_Q} {x0 x2 : Value} {v : Int32} : AW d 254 4 [x0, .int v, x2] (st) σ ρ g τ Q = AW d 254 5 [x0, .int v, x2] (.int v :: st) σ ρ g τ Q := aw_lc m254 d254_4 rfl rfl rfl
theorem d254_5 : decode cX12_kindOn 5 = .ok (.iaload, 1) := by decide +kernel
theorem s254_5 {d : Nat} {st : List Value} {σ : am_I} {ρ : am_R} {g : am_J} {τ : am_T} {Q : am_Q} {x0 x1 x2 : Value} {a : Nat} {j : Int32} (ht : τ.1 a = 15) (hj : am_inb j (τ.2.1 a) = true) : AW d 254 5 [x0, x1, x2] (.int j :: .ref a :: st) σ ρ g τ Q = AW d 254 6 [x0, x1, x2] (.int (σ a j.toNatClampNeg) :: st) σ ρ g τ Q := aw_ial m254 d254_5 rfl ht hj
theorem d254_6 : decode cX12_kindOn 6 = .ok (.istore_n 2, 1) := by decide +kernel
theorem s254_6 {d : Nat} {st : List Value} {σ : am_I} {ρ : am_R} {g : am_J} {τ : am_T} {Q : am_Q} {x0 x2 : Value} {v : Int32} {u : Int32} : AW d 254 6 [x0, .int u, x2] (.int v :: st) σ ρ g τ Q = AW d 254 7 [x0, .int u, .int v] (st) σ ρ g τ Q := aw_lc m254 d254_6 rfl rfl rfl
theorem d254_7 : decode cX12_kindOn 7 = .ok (.aload_n 0, 1) := by decide +kernel
theorem s254_7 {d : Nat} {st : List Value} {σ : am_I} {ρ : am_R} {g : am_J} {τ : am_T} {Q : am_Q} {x1 x2 : Value} {v : Nat} : AW d 254 7 [.ref v, x1, x2] (st) σ ρ g τ Q = AW d 254 8 [.ref v, x1, x2] (.ref v :: st) σ ρ g τ Q := aw_lc m254 d254_7 rfl rfl rfl
theorem d254_8 : decode cX12_kindOn 8 = .ok (.getfield 157, 3) := by decide +kernel
theorem s254_8 {d : Nat} {st : List Value} {σ : am_I} {ρ : am_R} {g : am_J} {τ : am_T} {Q : am_Q} {x0 x1 x2 : Value} {a : Nat} (ht : τ.1 a = 12) : AW d 254 8 [x0, x1, x2] (.ref a :: st) σ ρ g τ Q = AW d 254 11 [x0, x1, x2] (va_rf (ρ a 51) :: st) σ ρ g τ Q := aw_gr m254 d254_8 rfl rfl rfl ht
theorem d254_11 : decode cX12_kindOn 11 = .ok (.iload_n 1, 1) := by decide +kernel
theorem s254_11 {d : Nat} {st : List Value} {σ : am_I} {ρ : am_R} {g : am_J} {τ : am_T} {Q : am_Q} {x0 x2 : Value} {v : Int32} : AW d 254 11 [x0, .int v, x2] (st) σ ρ g τ Q = AW d 254 12 [x0, .int v, x2] (.int v :: st) σ ρ g τ Q := aw_lc m254 d254_11 rfl rfl rfl
theorem d254_12 : decode cX12_kindOn 12 = .ok (.iaload, 1) := by decide +kernel
theorem s254_12 {d : Nat} {st : List Value} {σ : am_I} {ρ : am_R} {g : am_J} {τ : am_T} {Q : am_Q} {x0 x1 x2 : Value} {a : Nat} {j : Int32} (ht : τ.1 a = 15) (hj : am_inb j (τ.2.1 a) = true) : AW d 254 12 [x0, x1, x2] (.int j :: .ref a :: st) σ ρ g τ Q = AW d 254 13 [x0, x1, x2] (.int (σ a j.toNatClampNeg) :: st) σ ρ g τ Q := aw_ial m254 d254_12 rfl ht hj
theorem d254_13 : decode cX12_kindOn 13 = .ok (.tableswitch 98 0 2 #[27, 79, 95], 27) := by decide +kernel
theorem s254_13_0 {d : Nat} {st : List Value} {σ : am_I} {ρ : am_R} {g : am_J} {τ : am_T} {Q : am_Q} {x0 x1 x2 : Value} : AW d 254 13 [x0, x1, x2] (.int 0 :: st) σ ρ g τ Q = AW d 254 40 [x0, x1, x2] (st) σ ρ g τ Q := aw_lc m254 d254_13 rfl rfl rfl
theorem s254_13_1 {d : Nat} {st : List Value} {σ : am_I} {ρ : am_R} {g : am_J} {τ : am_T} {Q : am_Q} {x0 x1 x2 : Value} : AW d 254 13 [x0, x1, x2] (.int 1 :: st) σ ρ g τ Q = AW d 254 92 [x0, x1, x2] (st) σ ρ g τ Q := aw_lc m254 d254_13 rfl rfl rfl
theorem s254_13_2 {d : Nat} {st : List Value} {σ : am_I} {ρ : am_R} {g : am_J} {τ : am_T} {Q : am_Q} {x0 x1 x2 : Value} : AW d 254 13 [x0, x1, x2] (.int 2 :: st) σ ρ g τ Q = AW d 254 108 [x0, x1, x2] (st) σ ρ g τ Q := aw_lc m254 d254_13 rfl rfl rfl
theorem s254_13_d {d : Nat} {st : List Value} {σ : am_I} {ρ : am_R} {g : am_J} {τ : am_T} {Q : am_Q} {x0 x1 x2 : Value} {v : Int32} (h : v.toInt < 0 ∨ 2 < v.toInt) : AW d 254 13 [x0, x1, x2] (.int v :: st) σ ρ g τ Q = AW d 254 111 [x0, x1, x2] (st) σ ρ g τ Q := aw_lc m254 d254_13 rfl rfl (by simp only [am_lc]; rw [if_pos h]; rfl)
theorem d254_40 : decode cX12_kindOn 40 = .ok (.aload_n 0, 1) := by decide +kernel
theorem s254_40 {d : Nat} {st : List Value} {σ : am_I} {ρ : am_R} {g : am_J} {τ : am_T} {Q : am_Q} {x1 x2 : Value} {v : Nat} : AW d 254 40 [.ref v, x1, x2] (st) σ ρ g τ Q = AW d 254 41 [.ref v, x1, x2] (.ref v :: st) σ ρ g τ Q := aw_lc m254 d254_40 rfl rfl rfl
theorem d254_41 : decode cX12_kindOn 41 = .ok (.iconst 2, 1) := by decide +kernel
theorem s254_41 {d : Nat} {st : List Value} {σ : am_I} {ρ : am_R} {g : am_J} {τ : am_T} {Q : am_Q} {x0 x1 x2 : Value} : AW d 254 41 [x0, x1, x2] (st) σ ρ g τ Q = AW d 254 42 [x0, x1, x2] (.int 2 :: st) σ ρ g τ Q := aw_lc m254 d254_41 rfl rfl rfl
theorem d254_42 : decode cX12_kindOn 42 = .ok (.iload_n 2, 1) := by decide +kernel
theorem s254_42 {d : Nat} {st : List Value} {σ : am_I} {ρ : am_R} {g : am_J} {τ : am_T} {Q : am_Q} {x0 x1 : Value} {v : Int32} : AW d 254 42 [x0, x1, .int v] (st) σ ρ g τ Q = AW d 254 43 [x0, x1, .int v] (.int v :: st) σ ρ g τ Q := aw_lc m254 d254_42 rfl rfl rfl
theorem d254_43 : decode cX12_kindOn 43 = .ok (.invokevirtual 210, 3) := by decide +kernel
theorem s254_43 {d : Nat} {st : List Value} {σ : am_I} {ρ : am_R} {g : am_J} {τ : am_T} {Q : am_Q} {x0 x1 x2 : Value} {p0 : Nat} {p1 : Int32} {p2 : Int32} (ht : τ.1 p0 = 12) (hs : st.length ≤ 4) : AW (d + 1) 254 43 [x0, x1, x2] (.int p2 :: .int p1 :: .ref p0 :: st) σ ρ g τ Q = AW d 167 0 [.ref p0, .int p1, .int p2] [] σ ρ g τ (fun r9 σ ρ g τ => AW (d + 1) 254 46 [x0, x1, x2] (r9.toList ++ st) σ ρ g τ Q) := aw_cv m254 d254_43 rfl m167 rfl rfl (by decide) en167 ok167 rfl ht hs
theorem d254_46 : decode cX12_kindOn 46 = .ok (.ifCond .ne 5, 3) := by decide +kernel
theorem s254_46 {d : Nat} {st : List Value} {σ : am_I} {ρ : am_R} {g : am_J} {τ : am_T} {Q : am_Q} {x0 x1 x2 : Value} {v : Int32} : AW d 254 46 [x0, x1, x2] (.int v :: st) σ ρ g τ Q = if ¬ v = 0 then AW d 254 51 [x0, x1, x2] (st) σ ρ g τ Q else AW d 254 49 [x0, x1, x2] (st) σ ρ g τ Q := aw_br m254 d254_46 rfl rfl rfl
theorem d254_49 : decode cX12_kindOn 49 = .ok (.iconst (-1), 1) := by decide +kernel
theorem s254_49 {d : Nat} {st : List Value} {σ : am_I} {ρ : am_R} {g : am_J} {τ : am_T} {Q : am_Q} {x0 x1 x2 : Value} : AW d 254 49 [x0, x1, x2] (st) σ ρ g τ Q = AW d 254 50 [x0, x1, x2] (.int (-1) :: st) σ ρ g τ Q := aw_lc m254 d254_49 rfl rfl rfl
theorem d254_50 : decode cX12_kindOn 50 = .ok (.ireturn, 1) := by decide +kernel
theorem s254_50 {d : Nat} {σ : am_I} {ρ : am_R} {g : am_J} {τ : am_T} {Q : am_Q} {x0 x1 x2 : Value} {v : Int32} : AW d 254 50 [x0, x1, x2] ([.int v]) σ ρ g τ Q = Q (some (.int v)) σ ρ g τ := aw_ri m254 d254_50 rfl
theorem d254_51 : decode cX12_kindOn 51 = .ok (.aload_n 0, 1) := by decide +kernel
theorem s254_51 {d : Nat} {st : List Value} {σ : am_I} {ρ : am_R} {g : am_J} {τ : am_T} {Q : am_Q} {x1 x2 : Value} {v : Nat} : AW d 254 51 [.ref v, x1, x2] (st) σ ρ g τ Q = AW d 254 52 [.ref v, x1, x2] (.ref v :: st) σ ρ g τ Q := aw_lc m254 d254_51 rfl rfl rfl
theorem d254_52 : decode cX12_kindOn 52 = .ok (.getfield 37, 3) := by decide +kernel
theorem s254_52 {d : Nat} {st : List Value} {σ : am_I} {ρ : am_R} {g : am_J} {τ : am_T} {Q : am_Q} {x0 x1 x2 : Value} {a : Nat} (ht : τ.1 a = 12) : AW d 254 52 [x0, x1, x2] (.ref a :: st) σ ρ g τ Q = AW d 254 55 [x0, x1, x2] (va_rf (ρ a 9) :: st) σ ρ g τ Q := aw_gr m254 d254_52 rfl rfl rfl ht
theorem d254_55 : decode cX12_kindOn 55 = .ok (.iload_n 2, 1) := by decide +kernel
theorem s254_55 {d : Nat} {st : List Value} {σ : am_I} {ρ : am_R} {g : am_J} {τ : am_T} {Q : am_Q} {x0 x1 : Value} {v : Int32} : AW d 254 55 [x0, x1, .int v] (st) σ ρ g τ Q = AW d 254 56 [x0, x1, .int v] (.int v :: st) σ ρ g τ Q := aw_lc m254 d254_55 rfl rfl rfl
theorem d254_56 : decode cX12_kindOn 56 = .ok (.iaload, 1) := by decide +kernel
theorem s254_56 {d : Nat} {st : List Value} {σ : am_I} {ρ : am_R} {g : am_J} {τ : am_T} {Q : am_Q} {x0 x1 x2 : Value} {a : Nat} {j : Int32} (ht : τ.1 a = 15) (hj : am_inb j (τ.2.1 a) = true) : AW d 254 56 [x0, x1, x2] (.int j :: .ref a :: st) σ ρ g τ Q = AW d 254 57 [x0, x1, x2] (.int (σ a j.toNatClampNeg) :: st) σ ρ g τ Q := aw_ial m254 d254_56 rfl ht hj
theorem d254_57 : decode cX12_kindOn 57 = .ok (.ifCond .ne 19, 3) := by decide +kernel
theorem s254_57 {d : Nat} {st : List Value} {σ : am_I} {ρ : am_R} {g : am_J} {τ : am_T} {Q : am_Q} {x0 x1 x2 : Value} {v : Int32} : AW d 254 57 [x0, x1, x2] (.int v :: st) σ ρ g τ Q = if ¬ v = 0 then AW d 254 76 [x0, x1, x2] (st) σ ρ g τ Q else AW d 254 60 [x0, x1, x2] (st) σ ρ g τ Q := aw_br m254 d254_57 rfl rfl rfl
theorem d254_60 : decode cX12_kindOn 60 = .ok (.aload_n 0, 1) := by decide +kernel
theorem s254_60 {d : Nat} {st : List Value} {σ : am_I} {ρ : am_R} {g : am_J} {τ : am_T} {Q : am_Q} {x1 x2 : Value} {v : Nat} : AW d 254 60 [.ref v, x1, x2] (st) σ ρ g τ Q = AW d 254 61 [.ref v, x1, x2] (.ref v :: st) σ ρ g τ Q := aw_lc m254 d254_60 rfl rfl rfl
theorem d254_61 : decode cX12_kindOn 61 = .ok (.getfield 58, 3) := by decide +kernel
theorem s254_61 {d : Nat} {st : List Value} {σ : am_I} {ρ : am_R} {g : am_J} {τ : am_T} {Q : am_Q} {x0 x1 x2 : Value} {a : Nat} (ht : τ.1 a = 12) : AW d 254 61 [x0, x1, x2] (.ref a :: st) σ ρ g τ Q = AW d 254 64 [x0, x1, x2] (va_rf (ρ a 16) :: st) σ ρ g τ Q := aw_gr m254 d254_61 rfl rfl rfl ht
theorem d254_64 : decode cX12_kindOn 64 = .ok (.iload_n 2, 1) := by decide +kernel
theorem s254_64 {d : Nat} {st : List Value} {σ : am_I} {ρ : am_R} {g : am_J} {τ : am_T} {Q : am_Q} {x0 x1 : Value} {v : Int32} : AW d 254 64 [x0, x1, .int v] (st) σ ρ g τ Q = AW d 254 65 [x0, x1, .int v] (.int v :: st) σ ρ g τ Q := aw_lc m254 d254_64 rfl rfl rfl
theorem d254_65 : decode cX12_kindOn 65 = .ok (.iaload, 1) := by decide +kernel
theorem s254_65 {d : Nat} {st : List Value} {σ : am_I} {ρ : am_R} {g : am_J} {τ : am_T} {Q : am_Q} {x0 x1 x2 : Value} {a : Nat} {j : Int32} (ht : τ.1 a = 15) (hj : am_inb j (τ.2.1 a) = true) : AW d 254 65 [x0, x1, x2] (.int j :: .ref a :: st) σ ρ g τ Q = AW d 254 66 [x0, x1, x2] (.int (σ a j.toNatClampNeg) :: st) σ ρ g τ Q := aw_ial m254 d254_65 rfl ht hj
theorem d254_66 : decode cX12_kindOn 66 = .ok (.iconst 1, 1) := by decide +kernel
theorem s254_66 {d : Nat} {st : List Value} {σ : am_I} {ρ : am_R} {g : am_J} {τ : am_T} {Q : am_Q} {x0 x1 x2 : Value} : AW d 254 66 [x0, x1, x2] (st) σ ρ g τ Q = AW d 254 67 [x0, x1, x2] (.int 1 :: st) σ ρ g τ Q := aw_lc m254 d254_66 rfl rfl rfl
theorem d254_67 : decode cX12_kindOn 67 = .ok (.if_icmp .ne 7, 3) := by decide +kernel
theorem s254_67 {d : Nat} {st : List Value} {σ : am_I} {ρ : am_R} {g : am_J} {τ : am_T} {Q : am_Q} {x0 x1 x2 : Value} {v w : Int32} : AW d 254 67 [x0, x1, x2] (.int w :: .int v :: st) σ ρ g τ Q = if ¬ v = w then AW d 254 74 [x0, x1, x2] (st) σ ρ g τ Q else AW d 254 70 [x0, x1, x2] (st) σ ρ g τ Q := aw_br m254 d254_67 rfl rfl rfl
theorem d254_70 : decode cX12_kindOn 70 = .ok (.iconst 3, 1) := by decide +kernel
theorem s254_70 {d : Nat} {st : List Value} {σ : am_I} {ρ : am_R} {g : am_J} {τ : am_T} {Q : am_Q} {x0 x1 x2 : Value} : AW d 254 70 [x0, x1, x2] (st) σ ρ g τ Q = AW d 254 71 [x0, x1, x2] (.int 3 :: st) σ ρ g τ Q := aw_lc m254 d254_70 rfl rfl rfl
theorem d254_71 : decode cX12_kindOn 71 = .ok (.goto 4, 3) := by decide +kernel
theorem s254_71 {d : Nat} {st : List Value} {σ : am_I} {ρ : am_R} {g : am_J} {τ : am_T} {Q : am_Q} {x0 x1 x2 : Value} : AW d 254 71 [x0, x1, x2] (st) σ ρ g τ Q = AW d 254 75 [x0, x1, x2] (st) σ ρ g τ Q := aw_lc m254 d254_71 rfl rfl rfl
theorem d254_74 : decode cX12_kindOn 74 = .ok (.iconst 2, 1) := by decide +kernel
theorem s254_74 {d : Nat} {st : List Value} {σ : am_I} {ρ : am_R} {g : am_J} {τ : am_T} {Q : am_Q} {x0 x1 x2 : Value} : AW d 254 74 [x0, x1, x2] (st) σ ρ g τ Q = AW d 254 75 [x0, x1, x2] (.int 2 :: st) σ ρ g τ Q := aw_lc m254 d254_74 rfl rfl rfl
theorem d254_75 : decode cX12_kindOn 75 = .ok (.ireturn, 1) := by decide +kernel
theorem s254_75 {d : Nat} {σ : am_I} {ρ : am_R} {g : am_J} {τ : am_T} {Q : am_Q} {x0 x1 x2 : Value} {v : Int32} : AW d 254 75 [x0, x1, x2] ([.int v]) σ ρ g τ Q = Q (some (.int v)) σ ρ g τ := aw_ri m254 d254_75 rfl
theorem d254_76 : decode cX12_kindOn 76 = .ok (.aload_n 0, 1) := by decide +kernel
theorem s254_76 {d : Nat} {st : List Value} {σ : am_I} {ρ : am_R} {g : am_J} {τ : am_T} {Q : am_Q} {x1 x2 : Value} {v : Nat} : AW d 254 76 [.ref v, x1, x2] (st) σ ρ g τ Q = AW d 254 77 [.ref v, x1, x2] (.ref v :: st) σ ρ g τ Q := aw_lc m254 d254_76 rfl rfl rfl
theorem d254_77 : decode cX12_kindOn 77 = .ok (.getfield 37, 3) := by decide +kernel
theorem s254_77 {d : Nat} {st : List Value} {σ : am_I} {ρ : am_R} {g : am_J} {τ : am_T} {Q : am_Q} {x0 x1 x2 : Value} {a : Nat} (ht : τ.1 a = 12) : AW d 254 77 [x0, x1, x2] (.ref a :: st) σ ρ g τ Q = AW d 254 80 [x0, x1, x2] (va_rf (ρ a 9) :: st) σ ρ g τ Q := aw_gr m254 d254_77 rfl rfl rfl ht
theorem d254_80 : decode cX12_kindOn 80 = .ok (.iload_n 2, 1) := by decide +kernel
theorem s254_80 {d : Nat} {st : List Value} {σ : am_I} {ρ : am_R} {g : am_J} {τ : am_T} {Q : am_Q} {x0 x1 : Value} {v : Int32} : AW d 254 80 [x0, x1, .int v] (st) σ ρ g τ Q = AW d 254 81 [x0, x1, .int v] (.int v :: st) σ ρ g τ Q := aw_lc m254 d254_80 rfl rfl rfl
theorem d254_81 : decode cX12_kindOn 81 = .ok (.iaload, 1) := by decide +kernel
theorem s254_81 {d : Nat} {st : List Value} {σ : am_I} {ρ : am_R} {g : am_J} {τ : am_T} {Q : am_Q} {x0 x1 x2 : Value} {a : Nat} {j : Int32} (ht : τ.1 a = 15) (hj : am_inb j (τ.2.1 a) = true) : AW d 254 81 [x0, x1, x2] (.int j :: .ref a :: st) σ ρ g τ Q = AW d 254 82 [x0, x1, x2] (.int (σ a j.toNatClampNeg) :: st) σ ρ g τ Q := aw_ial m254 d254_81 rfl ht hj
theorem d254_82 : decode cX12_kindOn 82 = .ok (.iconst 2, 1) := by decide +kernel
theorem s254_82 {d : Nat} {st : List Value} {σ : am_I} {ρ : am_R} {g : am_J} {τ : am_T} {Q : am_Q} {x0 x1 x2 : Value} : AW d 254 82 [x0, x1, x2] (st) σ ρ g τ Q = AW d 254 83 [x0, x1, x2] (.int 2 :: st) σ ρ g τ Q := aw_lc m254 d254_82 rfl rfl rfl
theorem d254_83 : decode cX12_kindOn 83 = .ok (.if_icmp .ne 7, 3) := by decide +kernel
theorem s254_83 {d : Nat} {st : List Value} {σ : am_I} {ρ : am_R} {g : am_J} {τ : am_T} {Q : am_Q} {x0 x1 x2 : Value} {v w : Int32} : AW d 254 83 [x0, x1, x2] (.int w :: .int v :: st) σ ρ g τ Q = if ¬ v = w then AW d 254 90 [x0, x1, x2] (st) σ ρ g τ Q else AW d 254 86 [x0, x1, x2] (st) σ ρ g τ Q := aw_br m254 d254_83 rfl rfl rfl
theorem d254_86 : decode cX12_kindOn 86 = .ok (.iconst 5, 1) := by decide +kernel
theorem s254_86 {d : Nat} {st : List Value} {σ : am_I} {ρ : am_R} {g : am_J} {τ : am_T} {Q : am_Q} {x0 x1 x2 : Value} : AW d 254 86 [x0, x1, x2] (st) σ ρ g τ Q = AW d 254 87 [x0, x1, x2] (.int 5 :: st) σ ρ g τ Q := aw_lc m254 d254_86 rfl rfl rfl
theorem d254_87 : decode cX12_kindOn 87 = .ok (.goto 4, 3) := by decide +kernel
theorem s254_87 {d : Nat} {st : List Value} {σ : am_I} {ρ : am_R} {g : am_J} {τ : am_T} {Q : am_Q} {x0 x1 x2 : Value} : AW d 254 87 [x0, x1, x2] (st) σ ρ g τ Q = AW d 254 91 [x0, x1, x2] (st) σ ρ g τ Q := aw_lc m254 d254_87 rfl rfl rfl
theorem d254_90 : decode cX12_kindOn 90 = .ok (.iconst 4, 1) := by decide +kernel
theorem s254_90 {d : Nat} {st : List Value} {σ : am_I} {ρ : am_R} {g : am_J} {τ : am_T} {Q : am_Q} {x0 x1 x2 : Value} : AW d 254 90 [x0, x1, x2] (st) σ ρ g τ Q = AW d 254 91 [x0, x1, x2] (.int 4 :: st) σ ρ g τ Q := aw_lc m254 d254_90 rfl rfl rfl
theorem d254_91 : decode cX12_kindOn 91 = .ok (.ireturn, 1) := by decide +kernel
theorem s254_91 {d : Nat} {σ : am_I} {ρ : am_R} {g : am_J} {τ : am_T} {Q : am_Q} {x0 x1 x2 : Value} {v : Int32} : AW d 254 91 [x0, x1, x2] ([.int v]) σ ρ g τ Q = Q (some (.int v)) σ ρ g τ := aw_ri m254 d254_91 rfl
theorem d254_92 : decode cX12_kindOn 92 = .ok (.aload_n 0, 1) := by decide +kernel
theorem s254_92 {d : Nat} {st : List Value} {σ : am_I} {ρ : am_R} {g : am_J} {τ : am_T} {Q : am_Q} {x1 x2 : Value} {v : Nat} : AW d 254 92 [.ref v, x1, x2] (st) σ ρ g τ Q = AW d 254 93 [.ref v, x1, x2] (.ref v :: st) σ ρ g τ Q := aw_lc m254 d254_92 rfl rfl rfl
theorem d254_93 : decode cX12_kindOn 93 = .ok (.iconst 5, 1) := by decide +kernel
theorem s254_93 {d : Nat} {st : List Value} {σ : am_I} {ρ : am_R} {g : am_J} {τ : am_T} {Q : am_Q} {x0 x1 x2 : Value} : AW d 254 93 [x0, x1, x2] (st) σ ρ g τ Q = AW d 254 94 [x0, x1, x2] (.int 5 :: st) σ ρ g τ Q := aw_lc m254 d254_93 rfl rfl rfl
theorem d254_94 : decode cX12_kindOn 94 = .ok (.iload_n 2, 1) := by decide +kernel
theorem s254_94 {d : Nat} {st : List Value} {σ : am_I} {ρ : am_R} {g : am_J} {τ : am_T} {Q : am_Q} {x0 x1 : Value} {v : Int32} : AW d 254 94 [x0, x1, .int v] (st) σ ρ g τ Q = AW d 254 95 [x0, x1, .int v] (.int v :: st) σ ρ g τ Q := aw_lc m254 d254_94 rfl rfl rfl
theorem d254_95 : decode cX12_kindOn 95 = .ok (.invokevirtual 210, 3) := by decide +kernel
theorem s254_95 {d : Nat} {st : List Value} {σ : am_I} {ρ : am_R} {g : am_J} {τ : am_T} {Q : am_Q} {x0 x1 x2 : Value} {p0 : Nat} {p1 : Int32} {p2 : Int32} (ht : τ.1 p0 = 12) (hs : st.length ≤ 4) : AW (d + 1) 254 95 [x0, x1, x2] (.int p2 :: .int p1 :: .ref p0 :: st) σ ρ g τ Q = AW d 167 0 [.ref p0, .int p1, .int p2] [] σ ρ g τ (fun r9 σ ρ g τ => AW (d + 1) 254 98 [x0, x1, x2] (r9.toList ++ st) σ ρ g τ Q) := aw_cv m254 d254_95 rfl m167 rfl rfl (by decide) en167 ok167 rfl ht hs
theorem d254_98 : decode cX12_kindOn 98 = .ok (.ifCond .eq 8, 3) := by decide +kernel
theorem s254_98 {d : Nat} {st : List Value} {σ : am_I} {ρ : am_R} {g : am_J} {τ : am_T} {Q : am_Q} {x0 x1 x2 : Value} {v : Int32} : AW d 254 98 [x0, x1, x2] (.int v :: st) σ ρ g τ Q = if v = 0 then AW d 254 106 [x0, x1, x2] (st) σ ρ g τ Q else AW d 254 101 [x0, x1, x2] (st) σ ρ g τ Q := aw_br m254 d254_98 rfl rfl rfl
theorem d254_101 : decode cX12_kindOn 101 = .ok (.bipush 6, 2) := by decide +kernel
theorem s254_101 {d : Nat} {st : List Value} {σ : am_I} {ρ : am_R} {g : am_J} {τ : am_T} {Q : am_Q} {x0 x1 x2 : Value} : AW d 254 101 [x0, x1, x2] (st) σ ρ g τ Q = AW d 254 103 [x0, x1, x2] (.int 6 :: st) σ ρ g τ Q := aw_lc m254 d254_101 rfl rfl rfl
theorem d254_103 : decode cX12_kindOn 103 = .ok (.goto 4, 3) := by decide +kernel
theorem s254_103 {d : Nat} {st : List Value} {σ : am_I} {ρ : am_R} {g : am_J} {τ : am_T} {Q : am_Q} {x0 x1 x2 : Value} : AW d 254 103 [x0, x1, x2] (st) σ ρ g τ Q = AW d 254 107 [x0, x1, x2] (st) σ ρ g τ Q := aw_lc m254 d254_103 rfl rfl rfl
theorem d254_106 : decode cX12_kindOn 106 = .ok (.iconst (-1), 1) := by decide +kernel
theorem s254_106 {d : Nat} {st : List Value} {σ : am_I} {ρ : am_R} {g : am_J} {τ : am_T} {Q : am_Q} {x0 x1 x2 : Value} : AW d 254 106 [x0, x1, x2] (st) σ ρ g τ Q = AW d 254 107 [x0, x1, x2] (.int (-1) :: st) σ ρ g τ Q := aw_lc m254 d254_106 rfl rfl rfl
theorem d254_107 : decode cX12_kindOn 107 = .ok (.ireturn, 1) := by decide +kernel
theorem s254_107 {d : Nat} {σ : am_I} {ρ : am_R} {g : am_J} {τ : am_T} {Q : am_Q} {x0 x1 x2 : Value} {v : Int32} : AW d 254 107 [x0, x1, x2] ([.int v]) σ ρ g τ Q = Q (some (.int v)) σ ρ g τ := aw_ri m254 d254_107 rfl
theorem d254_108 : decode cX12_kindOn 108 = .ok (.bipush (-2), 2) := by decide +kernel
theorem s254_108 {d : Nat} {st : List Value} {σ : am_I} {ρ : am_R} {g : am_J} {τ : am_T} {Q : am_Q} {x0 x1 x2 : Value} : AW d 254 108 [x0, x1, x2] (st) σ ρ g τ Q = AW d 254 110 [x0, x1, x2] (.int (-2) :: st) σ ρ g τ Q := aw_lc m254 d254_108 rfl rfl rfl
theorem d254_110 : decode cX12_kindOn 110 = .ok (.ireturn, 1) := by decide +kernel
theorem s254_110 {d : Nat} {σ : am_I} {ρ : am_R} {g : am_J} {τ : am_T} {Q : am_Q} {x0 x1 x2 : Value} {v : Int32} : AW d 254 110 [x0, x1, x2] ([.int v]) σ ρ g τ Q = Q (some (.int v)) σ ρ g τ := aw_ri m254 d254_110 rfl
theorem d254_111 : decode cX12_kindOn 111 = .ok (.iconst (-1), 1) := by decide +kernel
theorem s254_111 {d : Nat} {st : List Value} {σ : am_I} {ρ : am_R} {g : am_J} {τ : am_T} {Q : am_Q} {x0 x1 x2 : Value} : AW d 254 111 [x0, x1, x2] (st) σ ρ g τ Q = AW d 254 112 [x0, x1, x2] (.int (-1) :: st) σ ρ g τ Q := aw_lc m254 d254_111 rfl rfl rfl
theorem d254_112 : decode cX12_kindOn 112 = .ok (.ireturn, 1) := by decide +kernel
theorem s254_112 {d : Nat} {σ : am_I} {ρ : am_R} {g : am_J} {τ : am_T} {Q : am_Q} {x0 x1 x2 : Value} {v : Int32} : AW d 254 112 [x0, x1, x2] ([.int v]) σ ρ g τ Q = Q (some (.int v)) σ ρ g τ := aw_ri m254 d254_112 rfl
theorem d255_0 : decode cX12_isUnder 0 = .ok (.iload_n 1, 1) := by decide +kernel
theorem s255_0 {d : Nat} {st : List Value} {σ : am_I} {ρ : am_R} {g : am_J} {τ : am_T} {Q : am_Q} {x0 : Value} {v : Int32} : AW d 255 0 [x0, .int v] (st) σ ρ g τ Q = AW d 255 1 [x0, .int v] (.int v :: st) σ ρ g τ Q := aw_lc m255 d255_0 rfl rfl rfl
theorem d255_1 : decode cX12_isUnder 1 = .ok (.tableswitch 56 0 2 #[27, 29, 40], 27) := by decide +kernel
theorem s255_1_0 {d : Nat} {st : List Value} {σ : am_I} {ρ : am_R} {g : am_J} {τ : am_T} {Q : am_Q} {x0 x1 : Value} : AW d 255 1 [x0, x1] (.int 0 :: st) σ ρ g τ Q = AW d 255 28 [x0, x1] (st) σ ρ g τ Q := aw_lc m255 d255_1 rfl rfl rfl
theorem s255_1_1 {d : Nat} {st : List Value} {σ : am_I} {ρ : am_R} {g : am_J} {τ : am_T} {Q : am_Q} {x0 x1 : Value} : AW d 255 1 [x0, x1] (.int 1 :: st) σ ρ g τ Q = AW d 255 30 [x0, x1] (st) σ ρ g τ Q := aw_lc m255 d255_1 rfl rfl rfl
theorem s255_1_2 {d : Nat} {st : List Value} {σ : am_I} {ρ : am_R} {g : am_J} {τ : am_T} {Q : am_Q} {x0 x1 : Value} : AW d 255 1 [x0, x1] (.int 2 :: st) σ ρ g τ Q = AW d 255 41 [x0, x1] (st) σ ρ g τ Q := aw_lc m255 d255_1 rfl rfl rfl
theorem s255_1_d {d : Nat} {st : List Value} {σ : am_I} {ρ : am_R} {g : am_J} {τ : am_T} {Q : am_Q} {x0 x1 : Value} {v : Int32} (h : v.toInt < 0 ∨ 2 < v.toInt) : AW d 255 1 [x0, x1] (.int v :: st) σ ρ g τ Q = AW d 255 57 [x0, x1] (st) σ ρ g τ Q := aw_lc m255 d255_1 rfl rfl (by simp only [am_lc]; rw [if_pos h]; rfl)
theorem d255_28 : decode cX12_isUnder 28 = .ok (.iconst 1, 1) := by decide +kernel
theorem s255_28 {d : Nat} {st : List Value} {σ : am_I} {ρ : am_R} {g : am_J} {τ : am_T} {Q : am_Q} {x0 x1 : Value} : AW d 255 28 [x0, x1] (st) σ ρ g τ Q = AW d 255 29 [x0, x1] (.int 1 :: st) σ ρ g τ Q := aw_lc m255 d255_28 rfl rfl rfl
theorem d255_29 : decode cX12_isUnder 29 = .ok (.ireturn, 1) := by decide +kernel
theorem s255_29 {d : Nat} {σ : am_I} {ρ : am_R} {g : am_J} {τ : am_T} {Q : am_Q} {x0 x1 : Value} {v : Int32} (hv : am_b01 v = true) : AW d 255 29 [x0, x1] ([.int v]) σ ρ g τ Q = Q (some (.int v)) σ ρ g τ := aw_rz m255 d255_29 rfl hv
theorem d255_30 : decode cX12_isUnder 30 = .ok (.iload_n 0, 1) := by decide +kernel
theorem s255_30 {d : Nat} {st : List Value} {σ : am_I} {ρ : am_R} {g : am_J} {τ : am_T} {Q : am_Q} {x1 : Value} {v : Int32} : AW d 255 30 [.int v, x1] (st) σ ρ g τ Q = AW d 255 31 [.int v, x1] (.int v :: st) σ ρ g τ Q := aw_lc m255 d255_30 rfl rfl rfl
theorem d255_31 : decode cX12_isUnder 31 = .ok (.iconst 5, 1) := by decide +kernel
theorem s255_31 {d : Nat} {st : List Value} {σ : am_I} {ρ : am_R} {g : am_J} {τ : am_T} {Q : am_Q} {x0 x1 : Value} : AW d 255 31 [x0, x1] (st) σ ρ g τ Q = AW d 255 32 [x0, x1] (.int 5 :: st) σ ρ g τ Q := aw_lc m255 d255_31 rfl rfl rfl
theorem d255_32 : decode cX12_isUnder 32 = .ok (.if_icmp .gt 7, 3) := by decide +kernel
theorem s255_32 {d : Nat} {st : List Value} {σ : am_I} {ρ : am_R} {g : am_J} {τ : am_T} {Q : am_Q} {x0 x1 : Value} {v w : Int32} : AW d 255 32 [x0, x1] (.int w :: .int v :: st) σ ρ g τ Q = if w < v then AW d 255 39 [x0, x1] (st) σ ρ g τ Q else AW d 255 35 [x0, x1] (st) σ ρ g τ Q := aw_br m255 d255_32 rfl rfl rfl
theorem d255_35 : decode cX12_isUnder 35 = .ok (.iconst 1, 1) := by decide +kernel
theorem s255_35 {d : Nat} {st : List Value} {σ : am_I} {ρ : am_R} {g : am_J} {τ : am_T} {Q : am_Q} {x0 x1 : Value} : AW d 255 35 [x0, x1] (st) σ ρ g τ Q = AW d 255 36 [x0, x1] (.int 1 :: st) σ ρ g τ Q := aw_lc m255 d255_35 rfl rfl rfl
theorem d255_36 : decode cX12_isUnder 36 = .ok (.goto 4, 3) := by decide +kernel
theorem s255_36 {d : Nat} {st : List Value} {σ : am_I} {ρ : am_R} {g : am_J} {τ : am_T} {Q : am_Q} {x0 x1 : Value} : AW d 255 36 [x0, x1] (st) σ ρ g τ Q = AW d 255 40 [x0, x1] (st) σ ρ g τ Q := aw_lc m255 d255_36 rfl rfl rfl
theorem d255_39 : decode cX12_isUnder 39 = .ok (.iconst 0, 1) := by decide +kernel
theorem s255_39 {d : Nat} {st : List Value} {σ : am_I} {ρ : am_R} {g : am_J} {τ : am_T} {Q : am_Q} {x0 x1 : Value} : AW d 255 39 [x0, x1] (st) σ ρ g τ Q = AW d 255 40 [x0, x1] (.int 0 :: st) σ ρ g τ Q := aw_lc m255 d255_39 rfl rfl rfl
theorem d255_40 : decode cX12_isUnder 40 = .ok (.ireturn, 1) := by decide +kernel
theorem s255_40 {d : Nat} {σ : am_I} {ρ : am_R} {g : am_J} {τ : am_T} {Q : am_Q} {x0 x1 : Value} {v : Int32} (hv : am_b01 v = true) : AW d 255 40 [x0, x1] ([.int v]) σ ρ g τ Q = Q (some (.int v)) σ ρ g τ := aw_rz m255 d255_40 rfl hv
theorem d255_41 : decode cX12_isUnder 41 = .ok (.iload_n 0, 1) := by decide +kernel
theorem s255_41 {d : Nat} {st : List Value} {σ : am_I} {ρ : am_R} {g : am_J} {τ : am_T} {Q : am_Q} {x1 : Value} {v : Int32} : AW d 255 41 [.int v, x1] (st) σ ρ g τ Q = AW d 255 42 [.int v, x1] (.int v :: st) σ ρ g τ Q := aw_lc m255 d255_41 rfl rfl rfl
theorem d255_42 : decode cX12_isUnder 42 = .ok (.iconst 2, 1) := by decide +kernel
theorem s255_42 {d : Nat} {st : List Value} {σ : am_I} {ρ : am_R} {g : am_J} {τ : am_T} {Q : am_Q} {x0 x1 : Value} : AW d 255 42 [x0, x1] (st) σ ρ g τ Q = AW d 255 43 [x0, x1] (.int 2 :: st) σ ρ g τ Q := aw_lc m255 d255_42 rfl rfl rfl
theorem d255_43 : decode cX12_isUnder 43 = .ok (.if_icmp .eq 8, 3) := by decide +kernel
theorem s255_43 {d : Nat} {st : List Value} {σ : am_I} {ρ : am_R} {g : am_J} {τ : am_T} {Q : am_Q} {x0 x1 : Value} {v w : Int32} : AW d 255 43 [x0, x1] (.int w :: .int v :: st) σ ρ g τ Q = if v = w then AW d 255 51 [x0, x1] (st) σ ρ g τ Q else AW d 255 46 [x0, x1] (st) σ ρ g τ Q := aw_br m255 d255_43 rfl rfl rfl
theorem d255_46 : decode cX12_isUnder 46 = .ok (.iload_n 0, 1) := by decide +kernel
theorem s255_46 {d : Nat} {st : List Value} {σ : am_I} {ρ : am_R} {g : am_J} {τ : am_T} {Q : am_Q} {x1 : Value} {v : Int32} : AW d 255 46 [.int v, x1] (st) σ ρ g τ Q = AW d 255 47 [.int v, x1] (.int v :: st) σ ρ g τ Q := aw_lc m255 d255_46 rfl rfl rfl
theorem d255_47 : decode cX12_isUnder 47 = .ok (.iconst 3, 1) := by decide +kernel
theorem s255_47 {d : Nat} {st : List Value} {σ : am_I} {ρ : am_R} {g : am_J} {τ : am_T} {Q : am_Q} {x0 x1 : Value} : AW d 255 47 [x0, x1] (st) σ ρ g τ Q = AW d 255 48 [x0, x1] (.int 3 :: st) σ ρ g τ Q := aw_lc m255 d255_47 rfl rfl rfl
theorem d255_48 : decode cX12_isUnder 48 = .ok (.if_icmp .ne 7, 3) := by decide +kernel
theorem s255_48 {d : Nat} {st : List Value} {σ : am_I} {ρ : am_R} {g : am_J} {τ : am_T} {Q : am_Q} {x0 x1 : Value} {v w : Int32} : AW d 255 48 [x0, x1] (.int w :: .int v :: st) σ ρ g τ Q = if ¬ v = w then AW d 255 55 [x0, x1] (st) σ ρ g τ Q else AW d 255 51 [x0, x1] (st) σ ρ g τ Q := aw_br m255 d255_48 rfl rfl rfl
theorem d255_51 : decode cX12_isUnder 51 = .ok (.iconst 1, 1) := by decide +kernel
theorem s255_51 {d : Nat} {st : List Value} {σ : am_I} {ρ : am_R} {g : am_J} {τ : am_T} {Q : am_Q} {x0 x1 : Value} : AW d 255 51 [x0, x1] (st) σ ρ g τ Q = AW d 255 52 [x0, x1] (.int 1 :: st) σ ρ g τ Q := aw_lc m255 d255_51 rfl rfl rfl
theorem d255_52 : decode cX12_isUnder 52 = .ok (.goto 4, 3) := by decide +kernel
theorem s255_52 {d : Nat} {st : List Value} {σ : am_I} {ρ : am_R} {g : am_J} {τ : am_T} {Q : am_Q} {x0 x1 : Value} : AW d 255 52 [x0, x1] (st) σ ρ g τ Q = AW d 255 56 [x0, x1] (st) σ ρ g τ Q := aw_lc m255 d255_52 rfl rfl rfl
theorem d255_55 : decode cX12_isUnder 55 = .ok (.iconst 0, 1) := by decide +kernel
theorem s255_55 {d : Nat} {st : List Value} {σ : am_I} {ρ : am_R} {g : am_J} {τ : am_T} {Q : am_Q} {x0 x1 : Value} : AW d 255 55 [x0, x1] (st) σ ρ g τ Q = AW d 255 56 [x0, x1] (.int 0 :: st) σ ρ g τ Q := aw_lc m255 d255_55 rfl rfl rfl
theorem d255_56 : decode cX12_isUnder 56 = .ok (.ireturn, 1) := by decide +kernel
theorem s255_56 {d : Nat} {σ : am_I} {ρ : am_R} {g : am_J} {τ : am_T} {Q : am_Q} {x0 x1 : Value} {v : Int32} (hv : am_b01 v = true) : AW d 255 56 [x0, x1] ([.int v]) σ ρ g τ Q = Q (some (.int v)) σ ρ g τ := aw_rz m255 d255_56 rfl hv
theorem d255_57 : decode cX12_isUnder 57 = .ok (.iload_n 0, 1) := by decide +kernel
theorem s255_57 {d : Nat} {st : List Value} {σ : am_I} {ρ : am_R} {g : am_J} {τ : am_T} {Q : am_Q} {x1 : Value} {v : Int32} : AW d 255 57 [.int v, x1] (st) σ ρ g τ Q = AW d 255 58 [.int v, x1] (.int v :: st) σ ρ g τ Q := aw_lc m255 d255_57 rfl rfl rfl
theorem d255_58 : decode cX12_isUnder 58 = .ok (.iload_n 1, 1) := by decide +kernel
theorem s255_58 {d : Nat} {st : List Value} {σ : am_I} {ρ : am_R} {g : am_J} {τ : am_T} {Q : am_Q} {x0 : Value} {v : Int32} : AW d 255 58 [x0, .int v] (st) σ ρ g τ Q = AW d 255 59 [x0, .int v] (.int v :: st) σ ρ g τ Q := aw_lc m255 d255_58 rfl rfl rfl
theorem d255_59 : decode cX12_isUnder 59 = .ok (.if_icmp .ne 7, 3) := by decide +kernel
theorem s255_59 {d : Nat} {st : List Value} {σ : am_I} {ρ : am_R} {g : am_J} {τ : am_T} {Q : am_Q} {x0 x1 : Value} {v w : Int32} : AW d 255 59 [x0, x1] (.int w :: .int v :: st) σ ρ g τ Q = if ¬ v = w then AW d 255 66 [x0, x1] (st) σ ρ g τ Q else AW d 255 62 [x0, x1] (st) σ ρ g τ Q := aw_br m255 d255_59 rfl rfl rfl
theorem d255_62 : decode cX12_isUnder 62 = .ok (.iconst 1, 1) := by decide +kernel
theorem s255_62 {d : Nat} {st : List Value} {σ : am_I} {ρ : am_R} {g : am_J} {τ : am_T} {Q : am_Q} {x0 x1 : Value} : AW d 255 62 [x0, x1] (st) σ ρ g τ Q = AW d 255 63 [x0, x1] (.int 1 :: st) σ ρ g τ Q := aw_lc m255 d255_62 rfl rfl rfl
theorem d255_63 : decode cX12_isUnder 63 = .ok (.goto 4, 3) := by decide +kernel
theorem s255_63 {d : Nat} {st : List Value} {σ : am_I} {ρ : am_R} {g : am_J} {τ : am_T} {Q : am_Q} {x0 x1 : Value} : AW d 255 63 [x0, x1] (st) σ ρ g τ Q = AW d 255 67 [x0, x1] (st) σ ρ g τ Q := aw_lc m255 d255_63 rfl rfl rfl
theorem d255_66 : decode cX12_isUnder 66 = .ok (.iconst 0, 1) := by decide +kernel
theorem s255_66 {d : Nat} {st : List Value} {σ : am_I} {ρ : am_R} {g : am_J} {τ : am_T} {Q : am_Q} {x0 x1 : Value} : AW d 255 66 [x0, x1] (st) σ ρ g τ Q = AW d 255 67 [x0, x1] (.int 0 :: st) σ ρ g τ Q := aw_lc m255 d255_66 rfl rfl rfl
theorem d255_67 : decode cX12_isUnder 67 = .ok (.ireturn, 1) := by decide +kernel
theorem s255_67 {d : Nat} {σ : am_I} {ρ : am_R} {g : am_J} {τ : am_T} {Q : am_Q} {x0 x1 : Value} {v : Int32} (hv : am_b01 v = true) : AW d 255 67 [x0, x1] ([.int v]) σ ρ g τ Q = Q (some (.int v)) σ ρ g τ := aw_rz m255 d255_67 rfl hv
theorem d256_0 : decode cX12_taken 0 = .ok (.iload_n 1, 1) := by decide +kernel
theorem s256_0 {d : Nat} {st : List Value} {σ : am_I} {ρ : am_R} {g : am_J} {τ : am_T} {Q : am_Q} {x0 x2 x3 : Value} {v : Int32} : AW d 256 0 [x0, .int v, x2, x3] (st) σ ρ g τ Q = AW d 256 1 [x0, .int v, x2, x3] (.int v :: st) σ ρ g τ Q := aw_lc m256 d256_0 rfl rfl rfl
theorem d256_1 : decode cX12_taken 1 = .ok (.iconst 0, 1) := by decide +kernel
theorem s256_1 {d : Nat} {st : List Value} {σ : am_I} {ρ : am_R} {g : am_J} {τ : am_T} {Q : am_Q} {x0 x1 x2 x3 : Value} : AW d 256 1 [x0, x1, x2, x3] (st) σ ρ g τ Q = AW d 256 2 [x0, x1, x2, x3] (.int 0 :: st) σ ρ g τ Q := aw_lc m256 d256_1 rfl rfl rfl
theorem d256_2 : decode cX12_taken 2 = .ok (.iconst 3, 1) := by decide +kernel
theorem s256_2 {d : Nat} {st : List Value} {σ : am_I} {ρ : am_R} {g : am_J} {τ : am_T} {Q : am_Q} {x0 x1 x2 x3 : Value} : AW d 256 2 [x0, x1, x2, x3] (st) σ ρ g τ Q = AW d 256 3 [x0, x1, x2, x3] (.int 3 :: st) σ ρ g τ Q := aw_lc m256 d256_2 rfl rfl rfl
theorem d256_3 : decode cX12_taken 3 = .ok (.invokestatic 194, 3) := by decide +kernel
theorem s256_3 {d : Nat} {st : List Value} {σ : am_I} {ρ : am_R} {g : am_J} {τ : am_T} {Q : am_Q} {x0 x1 x2 x3 : Value} {p0 : Int32} {p1 : Int32} {p2 : Int32} (hs : st.length ≤ 4) : AW (d + 1) 256 3 [x0, x1, x2, x3] (.int p2 :: .int p1 :: .int p0 :: st) σ ρ g τ Q = AW d 165 0 [.int p0, .int p1, .int p2] [] σ ρ g τ (fun r9 σ ρ g τ => AW (d + 1) 256 6 [x0, x1, x2, x3] (r9.toList ++ st) σ ρ g τ Q) := aw_cs m256 d256_3 rfl (by simp only [List.length_cons]; omega) rfl rfl en165 ok165 rfl hs
theorem d256_6 : decode cX12_taken 6 = .ok (.ifCond .eq 24, 3) := by decide +kernel
theorem s256_6 {d : Nat} {st : List Value} {σ : am_I} {ρ : am_R} {g : am_J} {τ : am_T} {Q : am_Q} {x0 x1 x2 x3 : Value} {v : Int32} : AW d 256 6 [x0, x1, x2, x3] (.int v :: st) σ ρ g τ Q = if v = 0 then AW d 256 30 [x0, x1, x2, x3] (st) σ ρ g τ Q else AW d 256 9 [x0, x1, x2, x3] (st) σ ρ g τ Q := aw_br m256 d256_6 rfl rfl rfl
theorem d256_9 : decode cX12_taken 9 = .ok (.iload_n 2, 1) := by decide +kernel
theorem s256_9 {d : Nat} {st : List Value} {σ : am_I} {ρ : am_R} {g : am_J} {τ : am_T} {Q : am_Q} {x0 x1 x3 : Value} {v : Int32} : AW d 256 9 [x0, x1, .int v, x3] (st) σ ρ g τ Q = AW d 256 10 [x0, x1, .int v, x3] (.int v :: st) σ ρ g τ Q := aw_lc m256 d256_9 rfl rfl rfl
theorem d256_10 : decode cX12_taken 10 = .ok (.iconst 0, 1) := by decide +kernel
theorem s256_10 {d : Nat} {st : List Value} {σ : am_I} {ρ : am_R} {g : am_J} {τ : am_T} {Q : am_Q} {x0 x1 x2 x3 : Value} : AW d 256 10 [x0, x1, x2, x3] (st) σ ρ g τ Q = AW d 256 11 [x0, x1, x2, x3] (.int 0 :: st) σ ρ g τ Q := aw_lc m256 d256_10 rfl rfl rfl
theorem d256_11 : decode cX12_taken 11 = .ok (.bipush 6, 2) := by decide +kernel
theorem s256_11 {d : Nat} {st : List Value} {σ : am_I} {ρ : am_R} {g : am_J} {τ : am_T} {Q : am_Q} {x0 x1 x2 x3 : Value} : AW d 256 11 [x0, x1, x2, x3] (st) σ ρ g τ Q = AW d 256 13 [x0, x1, x2, x3] (.int 6 :: st) σ ρ g τ Q := aw_lc m256 d256_11 rfl rfl rfl
theorem d256_13 : decode cX12_taken 13 = .ok (.invokestatic 194, 3) := by decide +kernel
theorem s256_13 {d : Nat} {st : List Value} {σ : am_I} {ρ : am_R} {g : am_J} {τ : am_T} {Q : am_Q} {x0 x1 x2 x3 : Value} {p0 : Int32} {p1 : Int32} {p2 : Int32} (hs : st.length ≤ 4) : AW (d + 1) 256 13 [x0, x1, x2, x3] (.int p2 :: .int p1 :: .int p0 :: st) σ ρ g τ Q = AW d 165 0 [.int p0, .int p1, .int p2] [] σ ρ g τ (fun r9 σ ρ g τ => AW (d + 1) 256 16 [x0, x1, x2, x3] (r9.toList ++ st) σ ρ g τ Q) := aw_cs m256 d256_13 rfl (by simp only [List.length_cons]; omega) rfl rfl en165 ok165 rfl hs
theorem d256_16 : decode cX12_taken 16 = .ok (.ifCond .ne 16, 3) := by decide +kernel
theorem s256_16 {d : Nat} {st : List Value} {σ : am_I} {ρ : am_R} {g : am_J} {τ : am_T} {Q : am_Q} {x0 x1 x2 x3 : Value} {v : Int32} : AW d 256 16 [x0, x1, x2, x3] (.int v :: st) σ ρ g τ Q = if ¬ v = 0 then AW d 256 32 [x0, x1, x2, x3] (st) σ ρ g τ Q else AW d 256 19 [x0, x1, x2, x3] (st) σ ρ g τ Q := aw_br m256 d256_16 rfl rfl rfl
theorem d256_19 : decode cX12_taken 19 = .ok (.iload_n 2, 1) := by decide +kernel
theorem s256_19 {d : Nat} {st : List Value} {σ : am_I} {ρ : am_R} {g : am_J} {τ : am_T} {Q : am_Q} {x0 x1 x3 : Value} {v : Int32} : AW d 256 19 [x0, x1, .int v, x3] (st) σ ρ g τ Q = AW d 256 20 [x0, x1, .int v, x3] (.int v :: st) σ ρ g τ Q := aw_lc m256 d256_19 rfl rfl rfl
theorem d256_20 : decode cX12_taken 20 = .ok (.bipush 10, 2) := by decide +kernel
theorem s256_20 {d : Nat} {st : List Value} {σ : am_I} {ρ : am_R} {g : am_J} {τ : am_T} {Q : am_Q} {x0 x1 x2 x3 : Value} : AW d 256 20 [x0, x1, x2, x3] (st) σ ρ g τ Q = AW d 256 22 [x0, x1, x2, x3] (.int 10 :: st) σ ρ g τ Q := aw_lc m256 d256_20 rfl rfl rfl
theorem d256_22 : decode cX12_taken 22 = .ok (.bipush 14, 2) := by decide +kernel
theorem s256_22 {d : Nat} {st : List Value} {σ : am_I} {ρ : am_R} {g : am_J} {τ : am_T} {Q : am_Q} {x0 x1 x2 x3 : Value} : AW d 256 22 [x0, x1, x2, x3] (st) σ ρ g τ Q = AW d 256 24 [x0, x1, x2, x3] (.int 14 :: st) σ ρ g τ Q := aw_lc m256 d256_22 rfl rfl rfl
theorem d256_24 : decode cX12_taken 24 = .ok (.invokestatic 194, 3) := by decide +kernel
theorem s256_24 {d : Nat} {st : List Value} {σ : am_I} {ρ : am_R} {g : am_J} {τ : am_T} {Q : am_Q} {x0 x1 x2 x3 : Value} {p0 : Int32} {p1 : Int32} {p2 : Int32} (hs : st.length ≤ 4) : AW (d + 1) 256 24 [x0, x1, x2, x3] (.int p2 :: .int p1 :: .int p0 :: st) σ ρ g τ Q = AW d 165 0 [.int p0, .int p1, .int p2] [] σ ρ g τ (fun r9 σ ρ g τ => AW (d + 1) 256 27 [x0, x1, x2, x3] (r9.toList ++ st) σ ρ g τ Q) := aw_cs m256 d256_24 rfl (by simp only [List.length_cons]; omega) rfl rfl en165 ok165 rfl hs
theorem d256_27 : decode cX12_taken 27 = .ok (.ifCond .ne 5, 3) := by decide +kernel
theorem s256_27 {d : Nat} {st : List Value} {σ : am_I} {ρ : am_R} {g : am_J} {τ : am_T} {Q : am_Q} {x0 x1 x2 x3 : Value} {v : Int32} : AW d 256 27 [x0, x1, x2, x3] (.int v :: st) σ ρ g τ Q = if ¬ v = 0 then AW d 256 32 [x0, x1, x2, x3] (st) σ ρ g τ Q else AW d 256 30 [x0, x1, x2, x3] (st) σ ρ g τ Q := aw_br m256 d256_27 rfl rfl rfl
theorem d256_30 : decode cX12_taken 30 = .ok (.iconst (-1), 1) := by decide +kernel
theorem s256_30 {d : Nat} {st : List Value} {σ : am_I} {ρ : am_R} {g : am_J} {τ : am_T} {Q : am_Q} {x0 x1 x2 x3 : Value} : AW d 256 30 [x0, x1, x2, x3] (st) σ ρ g τ Q = AW d 256 31 [x0, x1, x2, x3] (.int (-1) :: st) σ ρ g τ Q := aw_lc m256 d256_30 rfl rfl rfl
theorem d256_31 : decode cX12_taken 31 = .ok (.ireturn, 1) := by decide +kernel
theorem s256_31 {d : Nat} {σ : am_I} {ρ : am_R} {g : am_J} {τ : am_T} {Q : am_Q} {x0 x1 x2 x3 : Value} {v : Int32} : AW d 256 31 [x0, x1, x2, x3] ([.int v]) σ ρ g τ Q = Q (some (.int v)) σ ρ g τ := aw_ri m256 d256_31 rfl
theorem d256_32 : decode cX12_taken 32 = .ok (.aload_n 0, 1) := by decide +kernel
theorem s256_32 {d : Nat} {st : List Value} {σ : am_I} {ρ : am_R} {g : am_J} {τ : am_T} {Q : am_Q} {x1 x2 x3 : Value} {v : Nat} : AW d 256 32 [.ref v, x1, x2, x3] (st) σ ρ g τ Q = AW d 256 33 [.ref v, x1, x2, x3] (.ref v :: st) σ ρ g τ Q := aw_lc m256 d256_32 rfl rfl rfl
theorem d256_33 : decode cX12_taken 33 = .ok (.iload_n 1, 1) := by decide +kernel
theorem s256_33 {d : Nat} {st : List Value} {σ : am_I} {ρ : am_R} {g : am_J} {τ : am_T} {Q : am_Q} {x0 x2 x3 : Value} {v : Int32} : AW d 256 33 [x0, .int v, x2, x3] (st) σ ρ g τ Q = AW d 256 34 [x0, .int v, x2, x3] (.int v :: st) σ ρ g τ Q := aw_lc m256 d256_33 rfl rfl rfl
theorem d256_34 : decode cX12_taken 34 = .ok (.invokevirtual 444, 3) := by decide +kernel
theorem s256_34 {d : Nat} {st : List Value} {σ : am_I} {ρ : am_R} {g : am_J} {τ : am_T} {Q : am_Q} {x0 x1 x2 x3 : Value} {p0 : Nat} {p1 : Int32} (ht : τ.1 p0 = 12) (hs : st.length ≤ 4) : AW (d + 1) 256 34 [x0, x1, x2, x3] (.int p1 :: .ref p0 :: st) σ ρ g τ Q = AW d 254 0 [.ref p0, .int p1, am_jk] [] σ ρ g τ (fun r9 σ ρ g τ => AW (d + 1) 256 37 [x0, x1, x2, x3] (r9.toList ++ st) σ ρ g τ Q) := aw_cv m256 d256_34 rfl m254 rfl rfl (by decide) en254 ok254 rfl ht hs
theorem d256_37 : decode cX12_taken 37 = .ok (.istore_n 3, 1) := by decide +kernel
theorem s256_37 {d : Nat} {st : List Value} {σ : am_I} {ρ : am_R} {g : am_J} {τ : am_T} {Q : am_Q} {x0 x1 x3 : Value} {v : Int32} {u : Int32} : AW d 256 37 [x0, x1, .int u, x3] (.int v :: st) σ ρ g τ Q = AW d 256 38 [x0, x1, .int u, .int v] (st) σ ρ g τ Q := aw_lc m256 d256_37 rfl rfl rfl
theorem d256_38 : decode cX12_taken 38 = .ok (.iload_n 3, 1) := by decide +kernel
theorem s256_38 {d : Nat} {st : List Value} {σ : am_I} {ρ : am_R} {g : am_J} {τ : am_T} {Q : am_Q} {x0 x1 x2 : Value} {v : Int32} : AW d 256 38 [x0, x1, x2, .int v] (st) σ ρ g τ Q = AW d 256 39 [x0, x1, x2, .int v] (.int v :: st) σ ρ g τ Q := aw_lc m256 d256_38 rfl rfl rfl
theorem d256_39 : decode cX12_taken 39 = .ok (.iconst (-1), 1) := by decide +kernel
theorem s256_39 {d : Nat} {st : List Value} {σ : am_I} {ρ : am_R} {g : am_J} {τ : am_T} {Q : am_Q} {x0 x1 x2 x3 : Value} : AW d 256 39 [x0, x1, x2, x3] (st) σ ρ g τ Q = AW d 256 40 [x0, x1, x2, x3] (.int (-1) :: st) σ ρ g τ Q := aw_lc m256 d256_39 rfl rfl rfl
theorem d256_40 : decode cX12_taken 40 = .ok (.if_icmp .ne 6, 3) := by decide +kernel
theorem s256_40 {d : Nat} {st : List Value} {σ : am_I} {ρ : am_R} {g : am_J} {τ : am_T} {Q : am_Q} {x0 x1 x2 x3 : Value} {v w : Int32} : AW d 256 40 [x0, x1, x2, x3] (.int w :: .int v :: st) σ ρ g τ Q = if ¬ v = w then AW d 256 46 [x0, x1, x2, x3] (st) σ ρ g τ Q else AW d 256 43 [x0, x1, x2, x3] (st) σ ρ g τ Q := aw_br m256 d256_40 rfl rfl rfl
theorem d256_43 : decode cX12_taken 43 = .ok (.bipush (-11), 2) := by decide +kernel
theorem s256_43 {d : Nat} {st : List Value} {σ : am_I} {ρ : am_R} {g : am_J} {τ : am_T} {Q : am_Q} {x0 x1 x2 x3 : Value} : AW d 256 43 [x0, x1, x2, x3] (st) σ ρ g τ Q = AW d 256 45 [x0, x1, x2, x3] (.int (-11) :: st) σ ρ g τ Q := aw_lc m256 d256_43 rfl rfl rfl
theorem d256_45 : decode cX12_taken 45 = .ok (.ireturn, 1) := by decide +kernel
theorem s256_45 {d : Nat} {σ : am_I} {ρ : am_R} {g : am_J} {τ : am_T} {Q : am_Q} {x0 x1 x2 x3 : Value} {v : Int32} : AW d 256 45 [x0, x1, x2, x3] ([.int v]) σ ρ g τ Q = Q (some (.int v)) σ ρ g τ := aw_ri m256 d256_45 rfl
theorem d256_46 : decode cX12_taken 46 = .ok (.iload_n 2, 1) := by decide +kernel
theorem s256_46 {d : Nat} {st : List Value} {σ : am_I} {ρ : am_R} {g : am_J} {τ : am_T} {Q : am_Q} {x0 x1 x3 : Value} {v : Int32} : AW d 256 46 [x0, x1, .int v, x3] (st) σ ρ g τ Q = AW d 256 47 [x0, x1, .int v, x3] (.int v :: st) σ ρ g τ Q := aw_lc m256 d256_46 rfl rfl rfl
theorem d256_47 : decode cX12_taken 47 = .ok (.bipush 10, 2) := by decide +kernel
theorem s256_47 {d : Nat} {st : List Value} {σ : am_I} {ρ : am_R} {g : am_J} {τ : am_T} {Q : am_Q} {x0 x1 x2 x3 : Value} : AW d 256 47 [x0, x1, x2, x3] (st) σ ρ g τ Q = AW d 256 49 [x0, x1, x2, x3] (.int 10 :: st) σ ρ g τ Q := aw_lc m256 d256_47 rfl rfl rfl
theorem d256_49 : decode cX12_taken 49 = .ok (.if_icmp .lt 34, 3) := by decide +kernel
theorem s256_49 {d : Nat} {st : List Value} {σ : am_I} {ρ : am_R} {g : am_J} {τ : am_T} {Q : am_Q} {x0 x1 x2 x3 : Value} {v w : Int32} : AW d 256 49 [x0, x1, x2, x3] (.int w :: .int v :: st) σ ρ g τ Q = if v < w then AW d 256 83 [x0, x1, x2, x3] (st) σ ρ g τ Q else AW d 256 52 [x0, x1, x2, x3] (st) σ ρ g τ Q := aw_br m256 d256_49 rfl rfl rfl
theorem d256_52 : decode cX12_taken 52 = .ok (.iload_n 3, 1) := by decide +kernel
theorem s256_52 {d : Nat} {st : List Value} {σ : am_I} {ρ : am_R} {g : am_J} {τ : am_T} {Q : am_Q} {x0 x1 x2 : Value} {v : Int32} : AW d 256 52 [x0, x1, x2, .int v] (st) σ ρ g τ Q = AW d 256 53 [x0, x1, x2, .int v] (.int v :: st) σ ρ g τ Q := aw_lc m256 d256_52 rfl rfl rfl
theorem d256_53 : decode cX12_taken 53 = .ok (.bipush (-2), 2) := by decide +kernel
theorem s256_53 {d : Nat} {st : List Value} {σ : am_I} {ρ : am_R} {g : am_J} {τ : am_T} {Q : am_Q} {x0 x1 x2 x3 : Value} : AW d 256 53 [x0, x1, x2, x3] (st) σ ρ g τ Q = AW d 256 55 [x0, x1, x2, x3] (.int (-2) :: st) σ ρ g τ Q := aw_lc m256 d256_53 rfl rfl rfl
theorem d256_55 : decode cX12_taken 55 = .ok (.if_icmp .ne 25, 3) := by decide +kernel
theorem s256_55 {d : Nat} {st : List Value} {σ : am_I} {ρ : am_R} {g : am_J} {τ : am_T} {Q : am_Q} {x0 x1 x2 x3 : Value} {v w : Int32} : AW d 256 55 [x0, x1, x2, x3] (.int w :: .int v :: st) σ ρ g τ Q = if ¬ v = w then AW d 256 80 [x0, x1, x2, x3] (st) σ ρ g τ Q else AW d 256 58 [x0, x1, x2, x3] (st) σ ρ g τ Q := aw_br m256 d256_55 rfl rfl rfl
theorem d256_58 : decode cX12_taken 58 = .ok (.aload_n 0, 1) := by decide +kernel
theorem s256_58 {d : Nat} {st : List Value} {σ : am_I} {ρ : am_R} {g : am_J} {τ : am_T} {Q : am_Q} {x1 x2 x3 : Value} {v : Nat} : AW d 256 58 [.ref v, x1, x2, x3] (st) σ ρ g τ Q = AW d 256 59 [.ref v, x1, x2, x3] (.ref v :: st) σ ρ g τ Q := aw_lc m256 d256_58 rfl rfl rfl
theorem d256_59 : decode cX12_taken 59 = .ok (.getfield 160, 3) := by decide +kernel
theorem s256_59 {d : Nat} {st : List Value} {σ : am_I} {ρ : am_R} {g : am_J} {τ : am_T} {Q : am_Q} {x0 x1 x2 x3 : Value} {a : Nat} (ht : τ.1 a = 12) : AW d 256 59 [x0, x1, x2, x3] (.ref a :: st) σ ρ g τ Q = AW d 256 62 [x0, x1, x2, x3] (va_rf (ρ a 52) :: st) σ ρ g τ Q := aw_gr m256 d256_59 rfl rfl rfl ht
theorem d256_62 : decode cX12_taken 62 = .ok (.iload_n 1, 1) := by decide +kernel
theorem s256_62 {d : Nat} {st : List Value} {σ : am_I} {ρ : am_R} {g : am_J} {τ : am_T} {Q : am_Q} {x0 x2 x3 : Value} {v : Int32} : AW d 256 62 [x0, .int v, x2, x3] (st) σ ρ g τ Q = AW d 256 63 [x0, .int v, x2, x3] (.int v :: st) σ ρ g τ Q := aw_lc m256 d256_62 rfl rfl rfl
theorem d256_63 : decode cX12_taken 63 = .ok (.iaload, 1) := by decide +kernel
theorem s256_63 {d : Nat} {st : List Value} {σ : am_I} {ρ : am_R} {g : am_J} {τ : am_T} {Q : am_Q} {x0 x1 x2 x3 : Value} {a : Nat} {j : Int32} (ht : τ.1 a = 15) (hj : am_inb j (τ.2.1 a) = true) : AW d 256 63 [x0, x1, x2, x3] (.int j :: .ref a :: st) σ ρ g τ Q = AW d 256 64 [x0, x1, x2, x3] (.int (σ a j.toNatClampNeg) :: st) σ ρ g τ Q := aw_ial m256 d256_63 rfl ht hj
theorem d256_64 : decode cX12_taken 64 = .ok (.iload_n 2, 1) := by decide +kernel
theorem s256_64 {d : Nat} {st : List Value} {σ : am_I} {ρ : am_R} {g : am_J} {τ : am_T} {Q : am_Q} {x0 x1 x3 : Value} {v : Int32} : AW d 256 64 [x0, x1, .int v, x3] (st) σ ρ g τ Q = AW d 256 65 [x0, x1, .int v, x3] (.int v :: st) σ ρ g τ Q := aw_lc m256 d256_64 rfl rfl rfl
theorem d256_65 : decode cX12_taken 65 = .ok (.bipush 10, 2) := by decide +kernel
theorem s256_65 {d : Nat} {st : List Value} {σ : am_I} {ρ : am_R} {g : am_J} {τ : am_T} {Q : am_Q} {x0 x1 x2 x3 : Value} : AW d 256 65 [x0, x1, x2, x3] (st) σ ρ g τ Q = AW d 256 67 [x0, x1, x2, x3] (.int 10 :: st) σ ρ g τ Q := aw_lc m256 d256_65 rfl rfl rfl
theorem d256_67 : decode cX12_taken 67 = .ok (.isub, 1) := by decide +kernel
theorem s256_67 {d : Nat} {st : List Value} {σ : am_I} {ρ : am_R} {g : am_J} {τ : am_T} {Q : am_Q} {x0 x1 x2 x3 : Value} {v w : Int32} : AW d 256 67 [x0, x1, x2, x3] (.int w :: .int v :: st) σ ρ g τ Q = AW d 256 68 [x0, x1, x2, x3] (.int (v - w) :: st) σ ρ g τ Q := aw_lc m256 d256_67 rfl rfl rfl
theorem d256_68 : decode cX12_taken 68 = .ok (.if_icmp .ne 12, 3) := by decide +kernel
theorem s256_68 {d : Nat} {st : List Value} {σ : am_I} {ρ : am_R} {g : am_J} {τ : am_T} {Q : am_Q} {x0 x1 x2 x3 : Value} {v w : Int32} : AW d 256 68 [x0, x1, x2, x3] (.int w :: .int v :: st) σ ρ g τ Q = if ¬ v = w then AW d 256 80 [x0, x1, x2, x3] (st) σ ρ g τ Q else AW d 256 71 [x0, x1, x2, x3] (st) σ ρ g τ Q := aw_br m256 d256_68 rfl rfl rfl
theorem d256_71 : decode cX12_taken 71 = .ok (.aload_n 0, 1) := by decide +kernel
theorem s256_71 {d : Nat} {st : List Value} {σ : am_I} {ρ : am_R} {g : am_J} {τ : am_T} {Q : am_Q} {x1 x2 x3 : Value} {v : Nat} : AW d 256 71 [.ref v, x1, x2, x3] (st) σ ρ g τ Q = AW d 256 72 [.ref v, x1, x2, x3] (.ref v :: st) σ ρ g τ Q := aw_lc m256 d256_71 rfl rfl rfl
theorem d256_72 : decode cX12_taken 72 = .ok (.getfield 163, 3) := by decide +kernel
theorem s256_72 {d : Nat} {st : List Value} {σ : am_I} {ρ : am_R} {g : am_J} {τ : am_T} {Q : am_Q} {x0 x1 x2 x3 : Value} {a : Nat} (ht : τ.1 a = 12) : AW d 256 72 [x0, x1, x2, x3] (.ref a :: st) σ ρ g τ Q = AW d 256 75 [x0, x1, x2, x3] (va_rf (ρ a 53) :: st) σ ρ g τ Q := aw_gr m256 d256_72 rfl rfl rfl ht
theorem d256_75 : decode cX12_taken 75 = .ok (.iload_n 1, 1) := by decide +kernel
theorem s256_75 {d : Nat} {st : List Value} {σ : am_I} {ρ : am_R} {g : am_J} {τ : am_T} {Q : am_Q} {x0 x2 x3 : Value} {v : Int32} : AW d 256 75 [x0, .int v, x2, x3] (st) σ ρ g τ Q = AW d 256 76 [x0, .int v, x2, x3] (.int v :: st) σ ρ g τ Q := aw_lc m256 d256_75 rfl rfl rfl
theorem d256_76 : decode cX12_taken 76 = .ok (.iaload, 1) := by decide +kernel
theorem s256_76 {d : Nat} {st : List Value} {σ : am_I} {ρ : am_R} {g : am_J} {τ : am_T} {Q : am_Q} {x0 x1 x2 x3 : Value} {a : Nat} {j : Int32} (ht : τ.1 a = 15) (hj : am_inb j (τ.2.1 a) = true) : AW d 256 76 [x0, x1, x2, x3] (.int j :: .ref a :: st) σ ρ g τ Q = AW d 256 77 [x0, x1, x2, x3] (.int (σ a j.toNatClampNeg) :: st) σ ρ g τ Q := aw_ial m256 d256_76 rfl ht hj
theorem d256_77 : decode cX12_taken 77 = .ok (.goto 5, 3) := by decide +kernel
theorem s256_77 {d : Nat} {st : List Value} {σ : am_I} {ρ : am_R} {g : am_J} {τ : am_T} {Q : am_Q} {x0 x1 x2 x3 : Value} : AW d 256 77 [x0, x1, x2, x3] (st) σ ρ g τ Q = AW d 256 82 [x0, x1, x2, x3] (st) σ ρ g τ Q := aw_lc m256 d256_77 rfl rfl rfl
theorem d256_80 : decode cX12_taken 80 = .ok (.bipush (-13), 2) := by decide +kernel
theorem s256_80 {d : Nat} {st : List Value} {σ : am_I} {ρ : am_R} {g : am_J} {τ : am_T} {Q : am_Q} {x0 x1 x2 x3 : Value} : AW d 256 80 [x0, x1, x2, x3] (st) σ ρ g τ Q = AW d 256 82 [x0, x1, x2, x3] (.int (-13) :: st) σ ρ g τ Q := aw_lc m256 d256_80 rfl rfl rfl
theorem d256_82 : decode cX12_taken 82 = .ok (.ireturn, 1) := by decide +kernel
theorem s256_82 {d : Nat} {σ : am_I} {ρ : am_R} {g : am_J} {τ : am_T} {Q : am_Q} {x0 x1 x2 x3 : Value} {v : Int32} : AW d 256 82 [x0, x1, x2, x3] ([.int v]) σ ρ g τ Q = Q (some (.int v)) σ ρ g τ := aw_ri m256 d256_82 rfl
theorem d256_83 : decode cX12_taken 83 = .ok (.iload_n 3, 1) := by decide +kernel
theorem s256_83 {d : Nat} {st : List Value} {σ : am_I} {ρ : am_R} {g : am_J} {τ : am_T} {Q : am_Q} {x0 x1 x2 : Value} {v : Int32} : AW d 256 83 [x0, x1, x2, .int v] (st) σ ρ g τ Q = AW d 256 84 [x0, x1, x2, .int v] (.int v :: st) σ ρ g τ Q := aw_lc m256 d256_83 rfl rfl rfl
theorem d256_84 : decode cX12_taken 84 = .ok (.ifCond .lt 20, 3) := by decide +kernel
theorem s256_84 {d : Nat} {st : List Value} {σ : am_I} {ρ : am_R} {g : am_J} {τ : am_T} {Q : am_Q} {x0 x1 x2 x3 : Value} {v : Int32} : AW d 256 84 [x0, x1, x2, x3] (.int v :: st) σ ρ g τ Q = if v < 0 then AW d 256 104 [x0, x1, x2, x3] (st) σ ρ g τ Q else AW d 256 87 [x0, x1, x2, x3] (st) σ ρ g τ Q := aw_br m256 d256_84 rfl rfl rfl
theorem d256_87 : decode cX12_taken 87 = .ok (.iload_n 3, 1) := by decide +kernel
theorem s256_87 {d : Nat} {st : List Value} {σ : am_I} {ρ : am_R} {g : am_J} {τ : am_T} {Q : am_Q} {x0 x1 x2 : Value} {v : Int32} : AW d 256 87 [x0, x1, x2, .int v] (st) σ ρ g τ Q = AW d 256 88 [x0, x1, x2, .int v] (.int v :: st) σ ρ g τ Q := aw_lc m256 d256_87 rfl rfl rfl
theorem d256_88 : decode cX12_taken 88 = .ok (.iload_n 2, 1) := by decide +kernel
theorem s256_88 {d : Nat} {st : List Value} {σ : am_I} {ρ : am_R} {g : am_J} {τ : am_T} {Q : am_Q} {x0 x1 x3 : Value} {v : Int32} : AW d 256 88 [x0, x1, .int v, x3] (st) σ ρ g τ Q = AW d 256 89 [x0, x1, .int v, x3] (.int v :: st) σ ρ g τ Q := aw_lc m256 d256_88 rfl rfl rfl
theorem d256_89 : decode cX12_taken 89 = .ok (.invokestatic 447, 3) := by decide +kernel
theorem s256_89 {d : Nat} {st : List Value} {σ : am_I} {ρ : am_R} {g : am_J} {τ : am_T} {Q : am_Q} {x0 x1 x2 x3 : Value} {p0 : Int32} {p1 : Int32} (hs : st.length ≤ 4) : AW (d + 1) 256 89 [x0, x1, x2, x3] (.int p1 :: .int p0 :: st) σ ρ g τ Q = AW d 255 0 [.int p0, .int p1] [] σ ρ g τ (fun r9 σ ρ g τ => AW (d + 1) 256 92 [x0, x1, x2, x3] (r9.toList ++ st) σ ρ g τ Q) := aw_cs m256 d256_89 rfl (by simp only [List.length_cons]; omega) rfl rfl en255 ok255 rfl hs
theorem d256_92 : decode cX12_taken 92 = .ok (.ifCond .eq 12, 3) := by decide +kernel
theorem s256_92 {d : Nat} {st : List Value} {σ : am_I} {ρ : am_R} {g : am_J} {τ : am_T} {Q : am_Q} {x0 x1 x2 x3 : Value} {v : Int32} : AW d 256 92 [x0, x1, x2, x3] (.int v :: st) σ ρ g τ Q = if v = 0 then AW d 256 104 [x0, x1, x2, x3] (st) σ ρ g τ Q else AW d 256 95 [x0, x1, x2, x3] (st) σ ρ g τ Q := aw_br m256 d256_92 rfl rfl rfl
theorem d256_95 : decode cX12_taken 95 = .ok (.aload_n 0, 1) := by decide +kernel
theorem s256_95 {d : Nat} {st : List Value} {σ : am_I} {ρ : am_R} {g : am_J} {τ : am_T} {Q : am_Q} {x1 x2 x3 : Value} {v : Nat} : AW d 256 95 [.ref v, x1, x2, x3] (st) σ ρ g τ Q = AW d 256 96 [.ref v, x1, x2, x3] (.ref v :: st) σ ρ g τ Q := aw_lc m256 d256_95 rfl rfl rfl
theorem d256_96 : decode cX12_taken 96 = .ok (.getfield 160, 3) := by decide +kernel
theorem s256_96 {d : Nat} {st : List Value} {σ : am_I} {ρ : am_R} {g : am_J} {τ : am_T} {Q : am_Q} {x0 x1 x2 x3 : Value} {a : Nat} (ht : τ.1 a = 12) : AW d 256 96 [x0, x1, x2, x3] (.ref a :: st) σ ρ g τ Q = AW d 256 99 [x0, x1, x2, x3] (va_rf (ρ a 52) :: st) σ ρ g τ Q := aw_gr m256 d256_96 rfl rfl rfl ht
theorem d256_99 : decode cX12_taken 99 = .ok (.iload_n 1, 1) := by decide +kernel
theorem s256_99 {d : Nat} {st : List Value} {σ : am_I} {ρ : am_R} {g : am_J} {τ : am_T} {Q : am_Q} {x0 x2 x3 : Value} {v : Int32} : AW d 256 99 [x0, .int v, x2, x3] (st) σ ρ g τ Q = AW d 256 100 [x0, .int v, x2, x3] (.int v :: st) σ ρ g τ Q := aw_lc m256 d256_99 rfl rfl rfl
theorem d256_100 : decode cX12_taken 100 = .ok (.iaload, 1) := by decide +kernel
theorem s256_100 {d : Nat} {st : List Value} {σ : am_I} {ρ : am_R} {g : am_J} {τ : am_T} {Q : am_Q} {x0 x1 x2 x3 : Value} {a : Nat} {j : Int32} (ht : τ.1 a = 15) (hj : am_inb j (τ.2.1 a) = true) : AW d 256 100 [x0, x1, x2, x3] (.int j :: .ref a :: st) σ ρ g τ Q = AW d 256 101 [x0, x1, x2, x3] (.int (σ a j.toNatClampNeg) :: st) σ ρ g τ Q := aw_ial m256 d256_100 rfl ht hj
theorem d256_101 : decode cX12_taken 101 = .ok (.goto 5, 3) := by decide +kernel
theorem s256_101 {d : Nat} {st : List Value} {σ : am_I} {ρ : am_R} {g : am_J} {τ : am_T} {Q : am_Q} {x0 x1 x2 x3 : Value} : AW d 256 101 [x0, x1, x2, x3] (st) σ ρ g τ Q = AW d 256 106 [x0, x1, x2, x3] (st) σ ρ g τ Q := aw_lc m256 d256_101 rfl rfl rfl
theorem d256_104 : decode cX12_taken 104 = .ok (.bipush (-13), 2) := by decide +kernel
theorem s256_104 {d : Nat} {st : List Value} {σ : am_I} {ρ : am_R} {g : am_J} {τ : am_T} {Q : am_Q} {x0 x1 x2 x3 : Value} : AW d 256 104 [x0, x1, x2, x3] (st) σ ρ g τ Q = AW d 256 106 [x0, x1, x2, x3] (.int (-13) :: st) σ ρ g τ Q := aw_lc m256 d256_104 rfl rfl rfl
theorem d256_106 : decode cX12_taken 106 = .ok (.ireturn, 1) := by decide +kernel
theorem s256_106 {d : Nat} {σ : am_I} {ρ : am_R} {g : am_J} {τ : am_T} {Q : am_Q} {x0 x1 x2 x3 : Value} {v : Int32} : AW d 256 106 [x0, x1, x2, x3] ([.int v]) σ ρ g τ Q = Q (some (.int v)) σ ρ g τ := aw_ri m256 d256_106 rfl
theorem d257_0 : decode cX12_begins 0 = .ok (.aload_n 0, 1) := by decide +kernel
theorem s257_0 {d : Nat} {st : List Value} {σ : am_I} {ρ : am_R} {g : am_J} {τ : am_T} {Q : am_Q} {x1 : Value} {v : Nat} : AW d 257 0 [.ref v, x1] (st) σ ρ g τ Q = AW d 257 1 [.ref v, x1] (.ref v :: st) σ ρ g τ Q := aw_lc m257 d257_0 rfl rfl rfl
theorem d257_1 : decode cX12_begins 1 = .ok (.getfield 450, 3) := by decide +kernel
theorem s257_1 {d : Nat} {st : List Value} {σ : am_I} {ρ : am_R} {g : am_J} {τ : am_T} {Q : am_Q} {x0 x1 : Value} {a : Nat} (ht : τ.1 a = 12) : AW d 257 1 [x0, x1] (.ref a :: st) σ ρ g τ Q = AW d 257 4 [x0, x1] (.int (σ a 55) :: st) σ ρ g τ Q := aw_gi m257 d257_1 rfl rfl rfl ht
theorem d257_4 : decode cX12_begins 4 = .ok (.bipush 30, 2) := by decide +kernel
theorem s257_4 {d : Nat} {st : List Value} {σ : am_I} {ρ : am_R} {g : am_J} {τ : am_T} {Q : am_Q} {x0 x1 : Value} : AW d 257 4 [x0, x1] (st) σ ρ g τ Q = AW d 257 6 [x0, x1] (.int 30 :: st) σ ρ g τ Q := aw_lc m257 d257_4 rfl rfl rfl
theorem d257_6 : decode cX12_begins 6 = .ok (.if_icmp .ge 23, 3) := by decide +kernel
theorem s257_6 {d : Nat} {st : List Value} {σ : am_I} {ρ : am_R} {g : am_J} {τ : am_T} {Q : am_Q} {x0 x1 : Value} {v w : Int32} : AW d 257 6 [x0, x1] (.int w :: .int v :: st) σ ρ g τ Q = if w ≤ v then AW d 257 29 [x0, x1] (st) σ ρ g τ Q else AW d 257 9 [x0, x1] (st) σ ρ g τ Q := aw_br m257 d257_6 rfl rfl rfl
theorem d257_9 : decode cX12_begins 9 = .ok (.aload_n 0, 1) := by decide +kernel
theorem s257_9 {d : Nat} {st : List Value} {σ : am_I} {ρ : am_R} {g : am_J} {τ : am_T} {Q : am_Q} {x1 : Value} {v : Nat} : AW d 257 9 [.ref v, x1] (st) σ ρ g τ Q = AW d 257 10 [.ref v, x1] (.ref v :: st) σ ρ g τ Q := aw_lc m257 d257_9 rfl rfl rfl
theorem d257_10 : decode cX12_begins 10 = .ok (.getfield 166, 3) := by decide +kernel
theorem s257_10 {d : Nat} {st : List Value} {σ : am_I} {ρ : am_R} {g : am_J} {τ : am_T} {Q : am_Q} {x0 x1 : Value} {a : Nat} (ht : τ.1 a = 12) : AW d 257 10 [x0, x1] (.ref a :: st) σ ρ g τ Q = AW d 257 13 [x0, x1] (va_rf (ρ a 54) :: st) σ ρ g τ Q := aw_gr m257 d257_10 rfl rfl rfl ht
theorem d257_13 : decode cX12_begins 13 = .ok (.aload_n 0, 1) := by decide +kernel
theorem s257_13 {d : Nat} {st : List Value} {σ : am_I} {ρ : am_R} {g : am_J} {τ : am_T} {Q : am_Q} {x1 : Value} {v : Nat} : AW d 257 13 [.ref v, x1] (st) σ ρ g τ Q = AW d 257 14 [.ref v, x1] (.ref v :: st) σ ρ g τ Q := aw_lc m257 d257_13 rfl rfl rfl
theorem d257_14 : decode cX12_begins 14 = .ok (.getfield 450, 3) := by decide +kernel
theorem s257_14 {d : Nat} {st : List Value} {σ : am_I} {ρ : am_R} {g : am_J} {τ : am_T} {Q : am_Q} {x0 x1 : Value} {a : Nat} (ht : τ.1 a = 12) : AW d 257 14 [x0, x1] (.ref a :: st) σ ρ g τ Q = AW d 257 17 [x0, x1] (.int (σ a 55) :: st) σ ρ g τ Q := aw_gi m257 d257_14 rfl rfl rfl ht
theorem d257_17 : decode cX12_begins 17 = .ok (.iload_n 1, 1) := by decide +kernel
theorem s257_17 {d : Nat} {st : List Value} {σ : am_I} {ρ : am_R} {g : am_J} {τ : am_T} {Q : am_Q} {x0 : Value} {v : Int32} : AW d 257 17 [x0, .int v] (st) σ ρ g τ Q = AW d 257 18 [x0, .int v] (.int v :: st) σ ρ g τ Q := aw_lc m257 d257_17 rfl rfl rfl
theorem d257_18 : decode cX12_begins 18 = .ok (.iastore, 1) := by decide +kernel
theorem s257_18 {d : Nat} {st : List Value} {σ : am_I} {ρ : am_R} {g : am_J} {τ : am_T} {Q : am_Q} {x0 x1 : Value} {a : Nat} {j v : Int32} (ht : τ.1 a = 15) (ha : a < am_BG) (hj : am_inb j (τ.2.1 a) = true) : AW d 257 18 [x0, x1] (.int v :: .int j :: .ref a :: st) σ ρ g τ Q = AW d 257 19 [x0, x1] (st) (am_u σ a j.toNatClampNeg v) ρ g τ Q := aw_ias m257 d257_18 rfl ht ha hj
theorem d257_19 : decode cX12_begins 19 = .ok (.aload_n 0, 1) := by decide +kernel
theorem s257_19 {d : Nat} {st : List Value} {σ : am_I} {ρ : am_R} {g : am_J} {τ : am_T} {Q : am_Q} {x1 : Value} {v : Nat} : AW d 257 19 [.ref v, x1] (st) σ ρ g τ Q = AW d 257 20 [.ref v, x1] (.ref v :: st) σ ρ g τ Q := aw_lc m257 d257_19 rfl rfl rfl
theorem d257_20 : decode cX12_begins 20 = .ok (.dup, 1) := by decide +kernel
theorem s257_20 {d : Nat} {st : List Value} {σ : am_I} {ρ : am_R} {g : am_J} {τ : am_T} {Q : am_Q} {x0 x1 : Value} {v : Int32} : AW d 257 20 [x0, x1] (.int v :: st) σ ρ g τ Q = AW d 257 21 [x0, x1] (.int v :: .int v :: st) σ ρ g τ Q := aw_lc m257 d257_20 rfl rfl rfl
theorem s257_20r {d : Nat} {st : List Value} {σ : am_I} {ρ : am_R} {g : am_J} {τ : am_T} {Q : am_Q} {x0 x1 : Value} {v : Nat} : AW d 257 20 [x0, x1] (.ref v :: st) σ ρ g τ Q = AW d 257 21 [x0, x1] (.ref v :: .ref v :: st) σ ρ g τ Q := aw_lc m257 d257_20 rfl rfl rfl
theorem d257_21 : decode cX12_begins 21 = .ok (.getfield 450, 3) := by decide +kernel
theorem s257_21 {d : Nat} {st : List Value} {σ : am_I} {ρ : am_R} {g : am_J} {τ : am_T} {Q : am_Q} {x0 x1 : Value} {a : Nat} (ht : τ.1 a = 12) : AW d 257 21 [x0, x1] (.ref a :: st) σ ρ g τ Q = AW d 257 24 [x0, x1] (.int (σ a 55) :: st) σ ρ g τ Q := aw_gi m257 d257_21 rfl rfl rfl ht
theorem d257_24 : decode cX12_begins 24 = .ok (.iconst 1, 1) := by decide +kernel
theorem s257_24 {d : Nat} {st : List Value} {σ : am_I} {ρ : am_R} {g : am_J} {τ : am_T} {Q : am_Q} {x0 x1 : Value} : AW d 257 24 [x0, x1] (st) σ ρ g τ Q = AW d 257 25 [x0, x1] (.int 1 :: st) σ ρ g τ Q := aw_lc m257 d257_24 rfl rfl rfl
theorem d257_25 : decode cX12_begins 25 = .ok (.iadd, 1) := by decide +kernel
theorem s257_25 {d : Nat} {st : List Value} {σ : am_I} {ρ : am_R} {g : am_J} {τ : am_T} {Q : am_Q} {x0 x1 : Value} {v w : Int32} : AW d 257 25 [x0, x1] (.int w :: .int v :: st) σ ρ g τ Q = AW d 257 26 [x0, x1] (.int (v + w) :: st) σ ρ g τ Q := aw_lc m257 d257_25 rfl rfl rfl
theorem d257_26 : decode cX12_begins 26 = .ok (.putfield 450, 3) := by decide +kernel
theorem s257_26 {d : Nat} {st : List Value} {σ : am_I} {ρ : am_R} {g : am_J} {τ : am_T} {Q : am_Q} {x0 x1 : Value} {a : Nat} {v : Int32} (ht : τ.1 a = 12) : AW d 257 26 [x0, x1] (.int v :: .ref a :: st) σ ρ g τ Q = AW d 257 29 [x0, x1] (st) (am_u σ a 55 v) ρ g τ Q := aw_pi m257 d257_26 rfl rfl (Or.inl rfl) rfl ht
theorem d257_29 : decode cX12_begins 29 = .ok (.return_, 1) := by decide +kernel
theorem s257_29 {d : Nat} {σ : am_I} {ρ : am_R} {g : am_J} {τ : am_T} {Q : am_Q} {x0 x1 : Value} : AW d 257 29 [x0, x1] ([]) σ ρ g τ Q = Q none σ ρ g τ := aw_rv m257 d257_29 rfl
theorem d258_0 : decode cX12_over 0 = .ok (.iload_n 0, 1) := by decide +kernel
theorem s258_0 {d : Nat} {st : List Value} {σ : am_I} {ρ : am_R} {g : am_J} {τ : am_T} {Q : am_Q} {v : Int32} : AW d 258 0 [.int v] (st) σ ρ g τ Q = AW d 258 1 [.int v] (.int v :: st) σ ρ g τ Q := aw_lc m258 d258_0 rfl rfl rfl
theorem d258_1 : decode cX12_over 1 = .ok (.lookupswitch 39 #[(1, 35), (3, 37), (6, 35)], 35) := by decide +kernel
theorem s258_1_1 {d : Nat} {st : List Value} {σ : am_I} {ρ : am_R} {g : am_J} {τ : am_T} {Q : am_Q} {x0 : Value} : AW d 258 1 [x0] (.int 1 :: st) σ ρ g τ Q = AW d 258 36 [x0] (st) σ ρ g τ Q := aw_lc m258 d258_1 rfl rfl rfl
theorem s258_1_3 {d : Nat} {st : List Value} {σ : am_I} {ρ : am_R} {g : am_J} {τ : am_T} {Q : am_Q} {x0 : Value} : AW d 258 1 [x0] (.int 3 :: st) σ ρ g τ Q = AW d 258 38 [x0] (st) σ ρ g τ Q := aw_lc m258 d258_1 rfl rfl rfl
theorem s258_1_6 {d : Nat} {st : List Value} {σ : am_I} {ρ : am_R} {g : am_J} {τ : am_T} {Q : am_Q} {x0 : Value} : AW d 258 1 [x0] (.int 6 :: st) σ ρ g τ Q = AW d 258 36 [x0] (st) σ ρ g τ Q := aw_lc m258 d258_1 rfl rfl rfl
theorem s258_1_d {d : Nat} {st : List Value} {σ : am_I} {ρ : am_R} {g : am_J} {τ : am_T} {Q : am_Q} {x0 : Value} {v : Int32} (h : Op.lookupswitch.offset [(1, 35), (3, 37), (6, 35)] 39 v.toInt = 39) : AW d 258 1 [x0] (.int v :: st) σ ρ g τ Q = AW d 258 40 [x0] (st) σ ρ g τ Q := aw_lc m258 d258_1 rfl rfl (by simp only [am_lc]; rw [if_pos (by decide), h]; rfl)
theorem d258_36 : decode cX12_over 36 = .ok (.iconst 0, 1) := by decide +kernel
theorem s258_36 {d : Nat} {st : List Value} {σ : am_I} {ρ : am_R} {g : am_J} {τ : am_T} {Q : am_Q} {x0 : Value} : AW d 258 36 [x0] (st) σ ρ g τ Q = AW d 258 37 [x0] (.int 0 :: st) σ ρ g τ Q := aw_lc m258 d258_36 rfl rfl rfl
theorem d258_37 : decode cX12_over 37 = .ok (.ireturn, 1) := by decide +kernel
theorem s258_37 {d : Nat} {σ : am_I} {ρ : am_R} {g : am_J} {τ : am_T} {Q : am_Q} {x0 : Value} {v : Int32} : AW d 258 37 [x0] ([.int v]) σ ρ g τ Q = Q (some (.int v)) σ ρ g τ := aw_ri m258 d258_37 rfl
theorem d258_38 : decode cX12_over 38 = .ok (.iconst 2, 1) := by decide +kernel
theorem s258_38 {d : Nat} {st : List Value} {σ : am_I} {ρ : am_R} {g : am_J} {τ : am_T} {Q : am_Q} {x0 : Value} : AW d 258 38 [x0] (st) σ ρ g τ Q = AW d 258 39 [x0] (.int 2 :: st) σ ρ g τ Q := aw_lc m258 d258_38 rfl rfl rfl
theorem d258_39 : decode cX12_over 39 = .ok (.ireturn, 1) := by decide +kernel
theorem s258_39 {d : Nat} {σ : am_I} {ρ : am_R} {g : am_J} {τ : am_T} {Q : am_Q} {x0 : Value} {v : Int32} : AW d 258 39 [x0] ([.int v]) σ ρ g τ Q = Q (some (.int v)) σ ρ g τ := aw_ri m258 d258_39 rfl
theorem d258_40 : decode cX12_over 40 = .ok (.iconst 1, 1) := by decide +kernel
theorem s258_40 {d : Nat} {st : List Value} {σ : am_I} {ρ : am_R} {g : am_J} {τ : am_T} {Q : am_Q} {x0 : Value} : AW d 258 40 [x0] (st) σ ρ g τ Q = AW d 258 41 [x0] (.int 1 :: st) σ ρ g τ Q := aw_lc m258 d258_40 rfl rfl rfl
theorem d258_41 : decode cX12_over 41 = .ok (.ireturn, 1) := by decide +kernel
theorem s258_41 {d : Nat} {σ : am_I} {ρ : am_R} {g : am_J} {τ : am_T} {Q : am_Q} {x0 : Value} {v : Int32} : AW d 258 41 [x0] ([.int v]) σ ρ g τ Q = Q (some (.int v)) σ ρ g τ := aw_ri m258 d258_41 rfl
theorem d259_0 : decode cX12_pays 0 = .ok (.iload_n 1, 1) := by decide +kernel
theorem s259_0 {d : Nat} {st : List Value} {σ : am_I} {ρ : am_R} {g : am_J} {τ : am_T} {Q : am_Q} {x0 x2 : Value} {v : Int32} : AW d 259 0 [x0, .int v, x2] (st) σ ρ g τ Q = AW d 259 1 [x0, .int v, x2] (.int v :: st) σ ρ g τ Q := aw_lc m259 d259_0 rfl rfl rfl
theorem d259_1 : decode cX12_pays 1 = .ok (.iconst 3, 1) := by decide +kernel
theorem s259_1 {d : Nat} {st : List Value} {σ : am_I} {ρ : am_R} {g : am_J} {τ : am_T} {Q : am_Q} {x0 x1 x2 : Value} : AW d 259 1 [x0, x1, x2] (st) σ ρ g τ Q = AW d 259 2 [x0, x1, x2] (.int 3 :: st) σ ρ g τ Q := aw_lc m259 d259_1 rfl rfl rfl
theorem d259_2 : decode cX12_pays 2 = .ok (.if_icmp .ne 21, 3) := by decide +kernel
theorem s259_2 {d : Nat} {st : List Value} {σ : am_I} {ρ : am_R} {g : am_J} {τ : am_T} {Q : am_Q} {x0 x1 x2 : Value} {v w : Int32} : AW d 259 2 [x0, x1, x2] (.int w :: .int v :: st) σ ρ g τ Q = if ¬ v = w then AW d 259 23 [x0, x1, x2] (st) σ ρ g τ Q else AW d 259 5 [x0, x1, x2] (st) σ ρ g τ Q := aw_br m259 d259_2 rfl rfl rfl
theorem d259_5 : decode cX12_pays 5 = .ok (.aload_n 0, 1) := by decide +kernel
theorem s259_5 {d : Nat} {st : List Value} {σ : am_I} {ρ : am_R} {g : am_J} {τ : am_T} {Q : am_Q} {x1 x2 : Value} {v : Nat} : AW d 259 5 [.ref v, x1, x2] (st) σ ρ g τ Q = AW d 259 6 [.ref v, x1, x2] (.ref v :: st) σ ρ g τ Q := aw_lc m259 d259_5 rfl rfl rfl
theorem d259_6 : decode cX12_pays 6 = .ok (.bipush 40, 2) := by decide +kernel
theorem s259_6 {d : Nat} {st : List Value} {σ : am_I} {ρ : am_R} {g : am_J} {τ : am_T} {Q : am_Q} {x0 x1 x2 : Value} : AW d 259 6 [x0, x1, x2] (st) σ ρ g τ Q = AW d 259 8 [x0, x1, x2] (.int 40 :: st) σ ρ g τ Q := aw_lc m259 d259_6 rfl rfl rfl
theorem d259_8 : decode cX12_pays 8 = .ok (.invokevirtual 453, 3) := by decide +kernel
theorem s259_8 {d : Nat} {st : List Value} {σ : am_I} {ρ : am_R} {g : am_J} {τ : am_T} {Q : am_Q} {x0 x1 x2 : Value} {p0 : Nat} {p1 : Int32} (ht : τ.1 p0 = 12) (hs : st.length ≤ 4) : AW (d + 1) 259 8 [x0, x1, x2] (.int p1 :: .ref p0 :: st) σ ρ g τ Q = AW d 257 0 [.ref p0, .int p1] [] σ ρ g τ (fun r9 σ ρ g τ => AW (d + 1) 259 11 [x0, x1, x2] (r9.toList ++ st) σ ρ g τ Q) := aw_cv m259 d259_8 rfl m257 rfl rfl (by decide) en257 ok257 rfl ht hs
theorem d259_11 : decode cX12_pays 11 = .ok (.iconst 0, 1) := by decide +kernel
theorem s259_11 {d : Nat} {st : List Value} {σ : am_I} {ρ : am_R} {g : am_J} {τ : am_T} {Q : am_Q} {x0 x1 x2 : Value} : AW d 259 11 [x0, x1, x2] (st) σ ρ g τ Q = AW d 259 12 [x0, x1, x2] (.int 0 :: st) σ ρ g τ Q := aw_lc m259 d259_11 rfl rfl rfl
theorem d259_12 : decode cX12_pays 12 = .ok (.aload_n 0, 1) := by decide +kernel
theorem s259_12 {d : Nat} {st : List Value} {σ : am_I} {ρ : am_R} {g : am_J} {τ : am_T} {Q : am_Q} {x1 x2 : Value} {v : Nat} : AW d 259 12 [.ref v, x1, x2] (st) σ ρ g τ Q = AW d 259 13 [.ref v, x1, x2] (.ref v :: st) σ ρ g τ Q := aw_lc m259 d259_12 rfl rfl rfl
theorem d259_13 : decode cX12_pays 13 = .ok (.iload_n 1, 1) := by decide +kernel
theorem s259_13 {d : Nat} {st : List Value} {σ : am_I} {ρ : am_R} {g : am_J} {τ : am_T} {Q : am_Q} {x0 x2 : Value} {v : Int32} : AW d 259 13 [x0, .int v, x2] (st) σ ρ g τ Q = AW d 259 14 [x0, .int v, x2] (.int v :: st) σ ρ g τ Q := aw_lc m259 d259_13 rfl rfl rfl
theorem d259_14 : decode cX12_pays 14 = .ok (.invokestatic 456, 3) := by decide +kernel
theorem s259_14 {d : Nat} {st : List Value} {σ : am_I} {ρ : am_R} {g : am_J} {τ : am_T} {Q : am_Q} {x0 x1 x2 : Value} {p0 : Int32} (hs : st.length ≤ 4) : AW (d + 1) 259 14 [x0, x1, x2] (.int p0 :: st) σ ρ g τ Q = AW d 258 0 [.int p0] [] σ ρ g τ (fun r9 σ ρ g τ => AW (d + 1) 259 17 [x0, x1, x2] (r9.toList ++ st) σ ρ g τ Q) := aw_cs m259 d259_14 rfl (by simp only [List.length_cons]; omega) rfl rfl en258 ok258 rfl hs
theorem d259_17 : decode cX12_pays 17 = .ok (.iload_n 2, 1) := by decide +kernel
theorem s259_17 {d : Nat} {st : List Value} {σ : am_I} {ρ : am_R} {g : am_J} {τ : am_T} {Q : am_Q} {x0 x1 : Value} {v : Int32} : AW d 259 17 [x0, x1, .int v] (st) σ ρ g τ Q = AW d 259 18 [x0, x1, .int v] (.int v :: st) σ ρ g τ Q := aw_lc m259 d259_17 rfl rfl rfl
theorem d259_18 : decode cX12_pays 18 = .ok (.invokevirtual 459, 3) := by decide +kernel
theorem s259_18 {d : Nat} {st : List Value} {σ : am_I} {ρ : am_R} {g : am_J} {τ : am_T} {Q : am_Q} {x0 x1 x2 : Value} {p0 : Nat} {p1 : Int32} {p2 : Int32} (ht : τ.1 p0 = 12) (hs : st.length ≤ 4) : AW (d + 1) 259 18 [x0, x1, x2] (.int p2 :: .int p1 :: .ref p0 :: st) σ ρ g τ Q = AW d 259 0 [.ref p0, .int p1, .int p2] [] σ ρ g τ (fun r9 σ ρ g τ => AW (d + 1) 259 21 [x0, x1, x2] (r9.toList ++ st) σ ρ g τ Q) := aw_cv m259 d259_18 rfl m259 rfl rfl (by decide) en259 ok259 rfl ht hs
theorem d259_21 : decode cX12_pays 21 = .ok (.isub, 1) := by decide +kernel
theorem s259_21 {d : Nat} {st : List Value} {σ : am_I} {ρ : am_R} {g : am_J} {τ : am_T} {Q : am_Q} {x0 x1 x2 : Value} {v w : Int32} : AW d 259 21 [x0, x1, x2] (.int w :: .int v :: st) σ ρ g τ Q = AW d 259 22 [x0, x1, x2] (.int (v - w) :: st) σ ρ g τ Q := aw_lc m259 d259_21 rfl rfl rfl
theorem d259_22 : decode cX12_pays 22 = .ok (.ireturn, 1) := by decide +kernel
theorem s259_22 {d : Nat} {σ : am_I} {ρ : am_R} {g : am_J} {τ : am_T} {Q : am_Q} {x0 x1 x2 : Value} {v : Int32} : AW d 259 22 [x0, x1, x2] ([.int v]) σ ρ g τ Q = Q (some (.int v)) σ ρ g τ := aw_ri m259 d259_22 rfl
theorem d259_23 : decode cX12_pays 23 = .ok (.iload_n 1, 1) := by decide +kernel
theorem s259_23 {d : Nat} {st : List Value} {σ : am_I} {ρ : am_R} {g : am_J} {τ : am_T} {Q : am_Q} {x0 x2 : Value} {v : Int32} : AW d 259 23 [x0, .int v, x2] (st) σ ρ g τ Q = AW d 259 24 [x0, .int v, x2] (.int v :: st) σ ρ g τ Q := aw_lc m259 d259_23 rfl rfl rfl
theorem d259_24 : decode cX12_pays 24 = .ok (.iconst 2, 1) := by decide +kernel
theorem s259_24 {d : Nat} {st : List Value} {σ : am_I} {ρ : am_R} {g : am_J} {τ : am_T} {Q : am_Q} {x0 x1 x2 : Value} : AW d 259 24 [x0, x1, x2] (st) σ ρ g τ Q = AW d 259 25 [x0, x1, x2] (.int 2 :: st) σ ρ g τ Q := aw_lc m259 d259_24 rfl rfl rfl
theorem d259_25 : decode cX12_pays 25 = .ok (.if_icmp .ne 21, 3) := by decide +kernel
theorem s259_25 {d : Nat} {st : List Value} {σ : am_I} {ρ : am_R} {g : am_J} {τ : am_T} {Q : am_Q} {x0 x1 x2 : Value} {v w : Int32} : AW d 259 25 [x0, x1, x2] (.int w :: .int v :: st) σ ρ g τ Q = if ¬ v = w then AW d 259 46 [x0, x1, x2] (st) σ ρ g τ Q else AW d 259 28 [x0, x1, x2] (st) σ ρ g τ Q := aw_br m259 d259_25 rfl rfl rfl
theorem d259_28 : decode cX12_pays 28 = .ok (.aload_n 0, 1) := by decide +kernel
theorem s259_28 {d : Nat} {st : List Value} {σ : am_I} {ρ : am_R} {g : am_J} {τ : am_T} {Q : am_Q} {x1 x2 : Value} {v : Nat} : AW d 259 28 [.ref v, x1, x2] (st) σ ρ g τ Q = AW d 259 29 [.ref v, x1, x2] (.ref v :: st) σ ρ g τ Q := aw_lc m259 d259_28 rfl rfl rfl
theorem d259_29 : decode cX12_pays 29 = .ok (.bipush 30, 2) := by decide +kernel
theorem s259_29 {d : Nat} {st : List Value} {σ : am_I} {ρ : am_R} {g : am_J} {τ : am_T} {Q : am_Q} {x0 x1 x2 : Value} : AW d 259 29 [x0, x1, x2] (st) σ ρ g τ Q = AW d 259 31 [x0, x1, x2] (.int 30 :: st) σ ρ g τ Q := aw_lc m259 d259_29 rfl rfl rfl
theorem d259_31 : decode cX12_pays 31 = .ok (.invokevirtual 453, 3) := by decide +kernel
theorem s259_31 {d : Nat} {st : List Value} {σ : am_I} {ρ : am_R} {g : am_J} {τ : am_T} {Q : am_Q} {x0 x1 x2 : Value} {p0 : Nat} {p1 : Int32} (ht : τ.1 p0 = 12) (hs : st.length ≤ 4) : AW (d + 1) 259 31 [x0, x1, x2] (.int p1 :: .ref p0 :: st) σ ρ g τ Q = AW d 257 0 [.ref p0, .int p1] [] σ ρ g τ (fun r9 σ ρ g τ => AW (d + 1) 259 34 [x0, x1, x2] (r9.toList ++ st) σ ρ g τ Q) := aw_cv m259 d259_31 rfl m257 rfl rfl (by decide) en257 ok257 rfl ht hs
theorem d259_34 : decode cX12_pays 34 = .ok (.aload_n 0, 1) := by decide +kernel
theorem s259_34 {d : Nat} {st : List Value} {σ : am_I} {ρ : am_R} {g : am_J} {τ : am_T} {Q : am_Q} {x1 x2 : Value} {v : Nat} : AW d 259 34 [.ref v, x1, x2] (st) σ ρ g τ Q = AW d 259 35 [.ref v, x1, x2] (.ref v :: st) σ ρ g τ Q := aw_lc m259 d259_34 rfl rfl rfl
theorem d259_35 : decode cX12_pays 35 = .ok (.iload_n 1, 1) := by decide +kernel
theorem s259_35 {d : Nat} {st : List Value} {σ : am_I} {ρ : am_R} {g : am_J} {τ : am_T} {Q : am_Q} {x0 x2 : Value} {v : Int32} : AW d 259 35 [x0, .int v, x2] (st) σ ρ g τ Q = AW d 259 36 [x0, .int v, x2] (.int v :: st) σ ρ g τ Q := aw_lc m259 d259_35 rfl rfl rfl
theorem d259_36 : decode cX12_pays 36 = .ok (.invokestatic 456, 3) := by decide +kernel
theorem s259_36 {d : Nat} {st : List Value} {σ : am_I} {ρ : am_R} {g : am_J} {τ : am_T} {Q : am_Q} {x0 x1 x2 : Value} {p0 : Int32} (hs : st.length ≤ 4) : AW (d + 1) 259 36 [x0, x1, x2] (.int p0 :: st) σ ρ g τ Q = AW d 258 0 [.int p0] [] σ ρ g τ (fun r9 σ ρ g τ => AW (d + 1) 259 39 [x0, x1, x2] (r9.toList ++ st) σ ρ g τ Q) := aw_cs m259 d259_36 rfl (by simp only [List.length_cons]; omega) rfl rfl en258 ok258 rfl hs
theorem d259_39 : decode cX12_pays 39 = .ok (.iload_n 2, 1) := by decide +kernel
theorem s259_39 {d : Nat} {st : List Value} {σ : am_I} {ρ : am_R} {g : am_J} {τ : am_T} {Q : am_Q} {x0 x1 : Value} {v : Int32} : AW d 259 39 [x0, x1, .int v] (st) σ ρ g τ Q = AW d 259 40 [x0, x1, .int v] (.int v :: st) σ ρ g τ Q := aw_lc m259 d259_39 rfl rfl rfl
theorem d259_40 : decode cX12_pays 40 = .ok (.invokevirtual 459, 3) := by decide +kernel
theorem s259_40 {d : Nat} {st : List Value} {σ : am_I} {ρ : am_R} {g : am_J} {τ : am_T} {Q : am_Q} {x0 x1 x2 : Value} {p0 : Nat} {p1 : Int32} {p2 : Int32} (ht : τ.1 p0 = 12) (hs : st.length ≤ 4) : AW (d + 1) 259 40 [x0, x1, x2] (.int p2 :: .int p1 :: .ref p0 :: st) σ ρ g τ Q = AW d 259 0 [.ref p0, .int p1, .int p2] [] σ ρ g τ (fun r9 σ ρ g τ => AW (d + 1) 259 43 [x0, x1, x2] (r9.toList ++ st) σ ρ g τ Q) := aw_cv m259 d259_40 rfl m259 rfl rfl (by decide) en259 ok259 rfl ht hs
theorem d259_43 : decode cX12_pays 43 = .ok (.iconst 3, 1) := by decide +kernel
theorem s259_43 {d : Nat} {st : List Value} {σ : am_I} {ρ : am_R} {g : am_J} {τ : am_T} {Q : am_Q} {x0 x1 x2 : Value} : AW d 259 43 [x0, x1, x2] (st) σ ρ g τ Q = AW d 259 44 [x0, x1, x2] (.int 3 :: st) σ ρ g τ Q := aw_lc m259 d259_43 rfl rfl rfl
theorem d259_44 : decode cX12_pays 44 = .ok (.imul, 1) := by decide +kernel
theorem s259_44 {d : Nat} {st : List Value} {σ : am_I} {ρ : am_R} {g : am_J} {τ : am_T} {Q : am_Q} {x0 x1 x2 : Value} {v w : Int32} : AW d 259 44 [x0, x1, x2] (.int w :: .int v :: st) σ ρ g τ Q = AW d 259 45 [x0, x1, x2] (.int (v * w) :: st) σ ρ g τ Q := aw_lc m259 d259_44 rfl rfl rfl
theorem d259_45 : decode cX12_pays 45 = .ok (.ireturn, 1) := by decide +kernel
theorem s259_45 {d : Nat} {σ : am_I} {ρ : am_R} {g : am_J} {τ : am_T} {Q : am_Q} {x0 x1 x2 : Value} {v : Int32} : AW d 259 45 [x0, x1, x2] ([.int v]) σ ρ g τ Q = Q (some (.int v)) σ ρ g τ := aw_ri m259 d259_45 rfl
theorem d259_46 : decode cX12_pays 46 = .ok (.iload_n 1, 1) := by decide +kernel
theorem s259_46 {d : Nat} {st : List Value} {σ : am_I} {ρ : am_R} {g : am_J} {τ : am_T} {Q : am_Q} {x0 x2 : Value} {v : Int32} : AW d 259 46 [x0, .int v, x2] (st) σ ρ g τ Q = AW d 259 47 [x0, .int v, x2] (.int v :: st) σ ρ g τ Q := aw_lc m259 d259_46 rfl rfl rfl
theorem d259_47 : decode cX12_pays 47 = .ok (.ifCond .eq 13, 3) := by decide +kernel
theorem s259_47 {d : Nat} {st : List Value} {σ : am_I} {ρ : am_R} {g : am_J} {τ : am_T} {Q : am_Q} {x0 x1 x2 : Value} {v : Int32} : AW d 259 47 [x0, x1, x2] (.int v :: st) σ ρ g τ Q = if v = 0 then AW d 259 60 [x0, x1, x2] (st) σ ρ g τ Q else AW d 259 50 [x0, x1, x2] (st) σ ρ g τ Q := aw_br m259 d259_47 rfl rfl rfl
theorem d259_50 : decode cX12_pays 50 = .ok (.aload_n 0, 1) := by decide +kernel
theorem s259_50 {d : Nat} {st : List Value} {σ : am_I} {ρ : am_R} {g : am_J} {τ : am_T} {Q : am_Q} {x1 x2 : Value} {v : Nat} : AW d 259 50 [.ref v, x1, x2] (st) σ ρ g τ Q = AW d 259 51 [.ref v, x1, x2] (.ref v :: st) σ ρ g τ Q := aw_lc m259 d259_50 rfl rfl rfl
theorem d259_51 : decode cX12_pays 51 = .ok (.iload_n 1, 1) := by decide +kernel
theorem s259_51 {d : Nat} {st : List Value} {σ : am_I} {ρ : am_R} {g : am_J} {τ : am_T} {Q : am_Q} {x0 x2 : Value} {v : Int32} : AW d 259 51 [x0, .int v, x2] (st) σ ρ g τ Q = AW d 259 52 [x0, .int v, x2] (.int v :: st) σ ρ g τ Q := aw_lc m259 d259_51 rfl rfl rfl
theorem d259_52 : decode cX12_pays 52 = .ok (.invokestatic 456, 3) := by decide +kernel
theorem s259_52 {d : Nat} {st : List Value} {σ : am_I} {ρ : am_R} {g : am_J} {τ : am_T} {Q : am_Q} {x0 x1 x2 : Value} {p0 : Int32} (hs : st.length ≤ 4) : AW (d + 1) 259 52 [x0, x1, x2] (.int p0 :: st) σ ρ g τ Q = AW d 258 0 [.int p0] [] σ ρ g τ (fun r9 σ ρ g τ => AW (d + 1) 259 55 [x0, x1, x2] (r9.toList ++ st) σ ρ g τ Q) := aw_cs m259 d259_52 rfl (by simp only [List.length_cons]; omega) rfl rfl en258 ok258 rfl hs
theorem d259_55 : decode cX12_pays 55 = .ok (.iload_n 2, 1) := by decide +kernel
theorem s259_55 {d : Nat} {st : List Value} {σ : am_I} {ρ : am_R} {g : am_J} {τ : am_T} {Q : am_Q} {x0 x1 : Value} {v : Int32} : AW d 259 55 [x0, x1, .int v] (st) σ ρ g τ Q = AW d 259 56 [x0, x1, .int v] (.int v :: st) σ ρ g τ Q := aw_lc m259 d259_55 rfl rfl rfl
theorem d259_56 : decode cX12_pays 56 = .ok (.invokevirtual 459, 3) := by decide +kernel
theorem s259_56 {d : Nat} {st : List Value} {σ : am_I} {ρ : am_R} {g : am_J} {τ : am_T} {Q : am_Q} {x0 x1 x2 : Value} {p0 : Nat} {p1 : Int32} {p2 : Int32} (ht : τ.1 p0 = 12) (hs : st.length ≤ 4) : AW (d + 1) 259 56 [x0, x1, x2] (.int p2 :: .int p1 :: .ref p0 :: st) σ ρ g τ Q = AW d 259 0 [.ref p0, .int p1, .int p2] [] σ ρ g τ (fun r9 σ ρ g τ => AW (d + 1) 259 59 [x0, x1, x2] (r9.toList ++ st) σ ρ g τ Q) := aw_cv m259 d259_56 rfl m259 rfl rfl (by decide) en259 ok259 rfl ht hs
theorem d259_59 : decode cX12_pays 59 = .ok (.ireturn, 1) := by decide +kernel
theorem s259_59 {d : Nat} {σ : am_I} {ρ : am_R} {g : am_J} {τ : am_T} {Q : am_Q} {x0 x1 x2 : Value} {v : Int32} : AW d 259 59 [x0, x1, x2] ([.int v]) σ ρ g τ Q = Q (some (.int v)) σ ρ g τ := aw_ri m259 d259_59 rfl
theorem d259_60 : decode cX12_pays 60 = .ok (.aload_n 0, 1) := by decide +kernel
theorem s259_60 {d : Nat} {st : List Value} {σ : am_I} {ρ : am_R} {g : am_J} {τ : am_T} {Q : am_Q} {x1 x2 : Value} {v : Nat} : AW d 259 60 [.ref v, x1, x2] (st) σ ρ g τ Q = AW d 259 61 [.ref v, x1, x2] (.ref v :: st) σ ρ g τ Q := aw_lc m259 d259_60 rfl rfl rfl
theorem d259_61 : decode cX12_pays 61 = .ok (.bipush 10, 2) := by decide +kernel
theorem s259_61 {d : Nat} {st : List Value} {σ : am_I} {ρ : am_R} {g : am_J} {τ : am_T} {Q : am_Q} {x0 x1 x2 : Value} : AW d 259 61 [x0, x1, x2] (st) σ ρ g τ Q = AW d 259 63 [x0, x1, x2] (.int 10 :: st) σ ρ g τ Q := aw_lc m259 d259_61 rfl rfl rfl
theorem d259_63 : decode cX12_pays 63 = .ok (.invokevirtual 453, 3) := by decide +kernel
theorem s259_63 {d : Nat} {st : List Value} {σ : am_I} {ρ : am_R} {g : am_J} {τ : am_T} {Q : am_Q} {x0 x1 x2 : Value} {p0 : Nat} {p1 : Int32} (ht : τ.1 p0 = 12) (hs : st.length ≤ 4) : AW (d + 1) 259 63 [x0, x1, x2] (.int p1 :: .ref p0 :: st) σ ρ g τ Q = AW d 257 0 [.ref p0, .int p1] [] σ ρ g τ (fun r9 σ ρ g τ => AW (d + 1) 259 66 [x0, x1, x2] (r9.toList ++ st) σ ρ g τ Q) := aw_cv m259 d259_63 rfl m257 rfl rfl (by decide) en257 ok257 rfl ht hs
theorem d259_66 : decode cX12_pays 66 = .ok (.iload_n 2, 1) := by decide +kernel
theorem s259_66 {d : Nat} {st : List Value} {σ : am_I} {ρ : am_R} {g : am_J} {τ : am_T} {Q : am_Q} {x0 x1 : Value} {v : Int32} : AW d 259 66 [x0, x1, .int v] (st) σ ρ g τ Q = AW d 259 67 [x0, x1, .int v] (.int v :: st) σ ρ g τ Q := aw_lc m259 d259_66 rfl rfl rfl
theorem d259_67 : decode cX12_pays 67 = .ok (.aload_n 0, 1) := by decide +kernel
theorem s259_67 {d : Nat} {st : List Value} {σ : am_I} {ρ : am_R} {g : am_J} {τ : am_T} {Q : am_Q} {x1 x2 : Value} {v : Nat} : AW d 259 67 [.ref v, x1, x2] (st) σ ρ g τ Q = AW d 259 68 [.ref v, x1, x2] (.ref v :: st) σ ρ g τ Q := aw_lc m259 d259_67 rfl rfl rfl
theorem d259_68 : decode cX12_pays 68 = .ok (.getfield 462, 3) := by decide +kernel
theorem s259_68 {d : Nat} {st : List Value} {σ : am_I} {ρ : am_R} {g : am_J} {τ : am_T} {Q : am_Q} {x0 x1 x2 : Value} {a : Nat} (ht : τ.1 a = 12) : AW d 259 68 [x0, x1, x2] (.ref a :: st) σ ρ g τ Q = AW d 259 71 [x0, x1, x2] (.int (σ a 73) :: st) σ ρ g τ Q := aw_gi m259 d259_68 rfl rfl rfl ht
theorem d259_71 : decode cX12_pays 71 = .ok (.iadd, 1) := by decide +kernel
theorem s259_71 {d : Nat} {st : List Value} {σ : am_I} {ρ : am_R} {g : am_J} {τ : am_T} {Q : am_Q} {x0 x1 x2 : Value} {v w : Int32} : AW d 259 71 [x0, x1, x2] (.int w :: .int v :: st) σ ρ g τ Q = AW d 259 72 [x0, x1, x2] (.int (v + w) :: st) σ ρ g τ Q := aw_lc m259 d259_71 rfl rfl rfl
theorem d259_72 : decode cX12_pays 72 = .ok (.ireturn, 1) := by decide +kernel
theorem s259_72 {d : Nat} {σ : am_I} {ρ : am_R} {g : am_J} {τ : am_T} {Q : am_Q} {x0 x1 x2 : Value} {v : Int32} : AW d 259 72 [x0, x1, x2] ([.int v]) σ ρ g τ Q = Q (some (.int v)) σ ρ g τ := aw_ri m259 d259_72 rfl
theorem d260_0 : decode cX12_ranks 0 = .ok (.iload_n 1, 1) := by decide +kernel
theorem s260_0 {d : Nat} {st : List Value} {σ : am_I} {ρ : am_R} {g : am_J} {τ : am_T} {Q : am_Q} {x0 x2 : Value} {v : Int32} : AW d 260 0 [x0, .int v, x2] (st) σ ρ g τ Q = AW d 260 1 [x0, .int v, x2] (.int v :: st) σ ρ g τ Q := aw_lc m260 d260_0 rfl rfl rfl
theorem d260_1 : decode cX12_ranks 1 = .ok (.iconst 5, 1) := by decide +kernel
theorem s260_1 {d : Nat} {st : List Value} {σ : am_I} {ρ : am_R} {g : am_J} {τ : am_T} {Q : am_Q} {x0 x1 x2 : Value} : AW d 260 1 [x0, x1, x2] (st) σ ρ g τ Q = AW d 260 2 [x0, x1, x2] (.int 5 :: st) σ ρ g τ Q := aw_lc m260 d260_1 rfl rfl rfl
theorem d260_2 : decode cX12_ranks 2 = .ok (.if_icmp .ne 24, 3) := by decide +kernel
theorem s260_2 {d : Nat} {st : List Value} {σ : am_I} {ρ : am_R} {g : am_J} {τ : am_T} {Q : am_Q} {x0 x1 x2 : Value} {v w : Int32} : AW d 260 2 [x0, x1, x2] (.int w :: .int v :: st) σ ρ g τ Q = if ¬ v = w then AW d 260 26 [x0, x1, x2] (st) σ ρ g τ Q else AW d 260 5 [x0, x1, x2] (st) σ ρ g τ Q := aw_br m260 d260_2 rfl rfl rfl
theorem d260_5 : decode cX12_ranks 5 = .ok (.aload_n 0, 1) := by decide +kernel
theorem s260_5 {d : Nat} {st : List Value} {σ : am_I} {ρ : am_R} {g : am_J} {τ : am_T} {Q : am_Q} {x1 x2 : Value} {v : Nat} : AW d 260 5 [.ref v, x1, x2] (st) σ ρ g τ Q = AW d 260 6 [.ref v, x1, x2] (.ref v :: st) σ ρ g τ Q := aw_lc m260 d260_5 rfl rfl rfl
theorem d260_6 : decode cX12_ranks 6 = .ok (.bipush 60, 2) := by decide +kernel
theorem s260_6 {d : Nat} {st : List Value} {σ : am_I} {ρ : am_R} {g : am_J} {τ : am_T} {Q : am_Q} {x0 x1 x2 : Value} : AW d 260 6 [x0, x1, x2] (st) σ ρ g τ Q = AW d 260 8 [x0, x1, x2] (.int 60 :: st) σ ρ g τ Q := aw_lc m260 d260_6 rfl rfl rfl
theorem d260_8 : decode cX12_ranks 8 = .ok (.invokevirtual 453, 3) := by decide +kernel
theorem s260_8 {d : Nat} {st : List Value} {σ : am_I} {ρ : am_R} {g : am_J} {τ : am_T} {Q : am_Q} {x0 x1 x2 : Value} {p0 : Nat} {p1 : Int32} (ht : τ.1 p0 = 12) (hs : st.length ≤ 4) : AW (d + 1) 260 8 [x0, x1, x2] (.int p1 :: .ref p0 :: st) σ ρ g τ Q = AW d 257 0 [.ref p0, .int p1] [] σ ρ g τ (fun r9 σ ρ g τ => AW (d + 1) 260 11 [x0, x1, x2] (r9.toList ++ st) σ ρ g τ Q) := aw_cv m260 d260_8 rfl m257 rfl rfl (by decide) en257 ok257 rfl ht hs
theorem d260_11 : decode cX12_ranks 11 = .ok (.aload_n 0, 1) := by decide +kernel
theorem s260_11 {d : Nat} {st : List Value} {σ : am_I} {ρ : am_R} {g : am_J} {τ : am_T} {Q : am_Q} {x1 x2 : Value} {v : Nat} : AW d 260 11 [.ref v, x1, x2] (st) σ ρ g τ Q = AW d 260 12 [.ref v, x1, x2] (.ref v :: st) σ ρ g τ Q := aw_lc m260 d260_11 rfl rfl rfl
theorem d260_12 : decode cX12_ranks 12 = .ok (.iload_n 1, 1) := by decide +kernel
theorem s260_12 {d : Nat} {st : List Value} {σ : am_I} {ρ : am_R} {g : am_J} {τ : am_T} {Q : am_Q} {x0 x2 : Value} {v : Int32} : AW d 260 12 [x0, .int v, x2] (st) σ ρ g τ Q = AW d 260 13 [x0, .int v, x2] (.int v :: st) σ ρ g τ Q := aw_lc m260 d260_12 rfl rfl rfl
theorem d260_13 : decode cX12_ranks 13 = .ok (.invokestatic 456, 3) := by decide +kernel
theorem s260_13 {d : Nat} {st : List Value} {σ : am_I} {ρ : am_R} {g : am_J} {τ : am_T} {Q : am_Q} {x0 x1 x2 : Value} {p0 : Int32} (hs : st.length ≤ 4) : AW (d + 1) 260 13 [x0, x1, x2] (.int p0 :: st) σ ρ g τ Q = AW d 258 0 [.int p0] [] σ ρ g τ (fun r9 σ ρ g τ => AW (d + 1) 260 16 [x0, x1, x2] (r9.toList ++ st) σ ρ g τ Q) := aw_cs m260 d260_13 rfl (by simp only [List.length_cons]; omega) rfl rfl en258 ok258 rfl hs
theorem d260_16 : decode cX12_ranks 16 = .ok (.iload_n 2, 1) := by decide +kernel
theorem s260_16 {d : Nat} {st : List Value} {σ : am_I} {ρ : am_R} {g : am_J} {τ : am_T} {Q : am_Q} {x0 x1 : Value} {v : Int32} : AW d 260 16 [x0, x1, .int v] (st) σ ρ g τ Q = AW d 260 17 [x0, x1, .int v] (.int v :: st) σ ρ g τ Q := aw_lc m260 d260_16 rfl rfl rfl
theorem d260_17 : decode cX12_ranks 17 = .ok (.aload_n 0, 1) := by decide +kernel
theorem s260_17 {d : Nat} {st : List Value} {σ : am_I} {ρ : am_R} {g : am_J} {τ : am_T} {Q : am_Q} {x1 x2 : Value} {v : Nat} : AW d 260 17 [.ref v, x1, x2] (st) σ ρ g τ Q = AW d 260 18 [.ref v, x1, x2] (.ref v :: st) σ ρ g τ Q := aw_lc m260 d260_17 rfl rfl rfl
theorem d260_18 : decode cX12_ranks 18 = .ok (.getfield 465, 3) := by decide +kernel
theorem s260_18 {d : Nat} {st : List Value} {σ : am_I} {ρ : am_R} {g : am_J} {τ : am_T} {Q : am_Q} {x0 x1 x2 : Value} {a : Nat} (ht : τ.1 a = 12) : AW d 260 18 [x0, x1, x2] (.ref a :: st) σ ρ g τ Q = AW d 260 21 [x0, x1, x2] (.int (σ a 72) :: st) σ ρ g τ Q := aw_gi m260 d260_18 rfl rfl rfl ht
theorem d260_21 : decode cX12_ranks 21 = .ok (.iadd, 1) := by decide +kernel
theorem s260_21 {d : Nat} {st : List Value} {σ : am_I} {ρ : am_R} {g : am_J} {τ : am_T} {Q : am_Q} {x0 x1 x2 : Value} {v w : Int32} : AW d 260 21 [x0, x1, x2] (.int w :: .int v :: st) σ ρ g τ Q = AW d 260 22 [x0, x1, x2] (.int (v + w) :: st) σ ρ g τ Q := aw_lc m260 d260_21 rfl rfl rfl
theorem d260_22 : decode cX12_ranks 22 = .ok (.invokevirtual 468, 3) := by decide +kernel
theorem s260_22 {d : Nat} {st : List Value} {σ : am_I} {ρ : am_R} {g : am_J} {τ : am_T} {Q : am_Q} {x0 x1 x2 : Value} {p0 : Nat} {p1 : Int32} {p2 : Int32} (ht : τ.1 p0 = 12) (hs : st.length ≤ 4) : AW (d + 1) 260 22 [x0, x1, x2] (.int p2 :: .int p1 :: .ref p0 :: st) σ ρ g τ Q = AW d 260 0 [.ref p0, .int p1, .int p2] [] σ ρ g τ (fun r9 σ ρ g τ => AW (d + 1) 260 25 [x0, x1, x2] (r9.toList ++ st) σ ρ g τ Q) := aw_cv m260 d260_22 rfl m260 rfl rfl (by decide) en260 ok260 rfl ht hs
theorem d260_25 : decode cX12_ranks 25 = .ok (.ireturn, 1) := by decide +kernel
theorem s260_25 {d : Nat} {σ : am_I} {ρ : am_R} {g : am_J} {τ : am_T} {Q : am_Q} {x0 x1 x2 : Value} {v : Int32} : AW d 260 25 [x0, x1, x2] ([.int v]) σ ρ g τ Q = Q (some (.int v)) σ ρ g τ := aw_ri m260 d260_25 rfl
theorem d260_26 : decode cX12_ranks 26 = .ok (.iload_n 1, 1) := by decide +kernel
theorem s260_26 {d : Nat} {st : List Value} {σ : am_I} {ρ : am_R} {g : am_J} {τ : am_T} {Q : am_Q} {x0 x2 : Value} {v : Int32} : AW d 260 26 [x0, .int v, x2] (st) σ ρ g τ Q = AW d 260 27 [x0, .int v, x2] (.int v :: st) σ ρ g τ Q := aw_lc m260 d260_26 rfl rfl rfl
theorem d260_27 : decode cX12_ranks 27 = .ok (.iconst 1, 1) := by decide +kernel
theorem s260_27 {d : Nat} {st : List Value} {σ : am_I} {ρ : am_R} {g : am_J} {τ : am_T} {Q : am_Q} {x0 x1 x2 : Value} : AW d 260 27 [x0, x1, x2] (st) σ ρ g τ Q = AW d 260 28 [x0, x1, x2] (.int 1 :: st) σ ρ g τ Q := aw_lc m260 d260_27 rfl rfl rfl
theorem d260_28 : decode cX12_ranks 28 = .ok (.if_icmp .ne 24, 3) := by decide +kernel
theorem s260_28 {d : Nat} {st : List Value} {σ : am_I} {ρ : am_R} {g : am_J} {τ : am_T} {Q : am_Q} {x0 x1 x2 : Value} {v w : Int32} : AW d 260 28 [x0, x1, x2] (.int w :: .int v :: st) σ ρ g τ Q = if ¬ v = w then AW d 260 52 [x0, x1, x2] (st) σ ρ g τ Q else AW d 260 31 [x0, x1, x2] (st) σ ρ g τ Q := aw_br m260 d260_28 rfl rfl rfl
theorem d260_31 : decode cX12_ranks 31 = .ok (.aload_n 0, 1) := by decide +kernel
theorem s260_31 {d : Nat} {st : List Value} {σ : am_I} {ρ : am_R} {g : am_J} {τ : am_T} {Q : am_Q} {x1 x2 : Value} {v : Nat} : AW d 260 31 [.ref v, x1, x2] (st) σ ρ g τ Q = AW d 260 32 [.ref v, x1, x2] (.ref v :: st) σ ρ g τ Q := aw_lc m260 d260_31 rfl rfl rfl
theorem d260_32 : decode cX12_ranks 32 = .ok (.bipush 20, 2) := by decide +kernel
theorem s260_32 {d : Nat} {st : List Value} {σ : am_I} {ρ : am_R} {g : am_J} {τ : am_T} {Q : am_Q} {x0 x1 x2 : Value} : AW d 260 32 [x0, x1, x2] (st) σ ρ g τ Q = AW d 260 34 [x0, x1, x2] (.int 20 :: st) σ ρ g τ Q := aw_lc m260 d260_32 rfl rfl rfl
theorem d260_34 : decode cX12_ranks 34 = .ok (.invokevirtual 453, 3) := by decide +kernel
theorem s260_34 {d : Nat} {st : List Value} {σ : am_I} {ρ : am_R} {g : am_J} {τ : am_T} {Q : am_Q} {x0 x1 x2 : Value} {p0 : Nat} {p1 : Int32} (ht : τ.1 p0 = 12) (hs : st.length ≤ 4) : AW (d + 1) 260 34 [x0, x1, x2] (.int p1 :: .ref p0 :: st) σ ρ g τ Q = AW d 257 0 [.ref p0, .int p1] [] σ ρ g τ (fun r9 σ ρ g τ => AW (d + 1) 260 37 [x0, x1, x2] (r9.toList ++ st) σ ρ g τ Q) := aw_cv m260 d260_34 rfl m257 rfl rfl (by decide) en257 ok257 rfl ht hs
theorem d260_37 : decode cX12_ranks 37 = .ok (.aload_n 0, 1) := by decide +kernel
theorem s260_37 {d : Nat} {st : List Value} {σ : am_I} {ρ : am_R} {g : am_J} {τ : am_T} {Q : am_Q} {x1 x2 : Value} {v : Nat} : AW d 260 37 [.ref v, x1, x2] (st) σ ρ g τ Q = AW d 260 38 [.ref v, x1, x2] (.ref v :: st) σ ρ g τ Q := aw_lc m260 d260_37 rfl rfl rfl
theorem d260_38 : decode cX12_ranks 38 = .ok (.iload_n 1, 1) := by decide +kernel
theorem s260_38 {d : Nat} {st : List Value} {σ : am_I} {ρ : am_R} {g : am_J} {τ : am_T} {Q : am_Q} {x0 x2 : Value} {v : Int32} : AW d 260 38 [x0, .int v, x2] (st) σ ρ g τ Q = AW d 260 39 [x0, .int v, x2] (.int v :: st) σ ρ g τ Q := aw_lc m260 d260_38 rfl rfl rfl
theorem d260_39 : decode cX12_ranks 39 = .ok (.invokestatic 456, 3) := by decide +kernel
theorem s260_39 {d : Nat} {st : List Value} {σ : am_I} {ρ : am_R} {g : am_J} {τ : am_T} {Q : am_Q} {x0 x1 x2 : Value} {p0 : Int32} (hs : st.length ≤ 4) : AW (d + 1) 260 39 [x0, x1, x2] (.int p0 :: st) σ ρ g τ Q = AW d 258 0 [.int p0] [] σ ρ g τ (fun r9 σ ρ g τ => AW (d + 1) 260 42 [x0, x1, x2] (r9.toList ++ st) σ ρ g τ Q) := aw_cs m260 d260_39 rfl (by simp only [List.length_cons]; omega) rfl rfl en258 ok258 rfl hs
theorem d260_42 : decode cX12_ranks 42 = .ok (.iload_n 2, 1) := by decide +kernel
theorem s260_42 {d : Nat} {st : List Value} {σ : am_I} {ρ : am_R} {g : am_J} {τ : am_T} {Q : am_Q} {x0 x1 : Value} {v : Int32} : AW d 260 42 [x0, x1, .int v] (st) σ ρ g τ Q = AW d 260 43 [x0, x1, .int v] (.int v :: st) σ ρ g τ Q := aw_lc m260 d260_42 rfl rfl rfl
theorem d260_43 : decode cX12_ranks 43 = .ok (.invokevirtual 468, 3) := by decide +kernel
theorem s260_43 {d : Nat} {st : List Value} {σ : am_I} {ρ : am_R} {g : am_J} {τ : am_T} {Q : am_Q} {x0 x1 x2 : Value} {p0 : Nat} {p1 : Int32} {p2 : Int32} (ht : τ.1 p0 = 12) (hs : st.length ≤ 4) : AW (d + 1) 260 43 [x0, x1, x2] (.int p2 :: .int p1 :: .ref p0 :: st) σ ρ g τ Q = AW d 260 0 [.ref p0, .int p1, .int p2] [] σ ρ g τ (fun r9 σ ρ g τ => AW (d + 1) 260 46 [x0, x1, x2] (r9.toList ++ st) σ ρ g τ Q) := aw_cv m260 d260_43 rfl m260 rfl rfl (by decide) en260 ok260 rfl ht hs
theorem d260_46 : decode cX12_ranks 46 = .ok (.aload_n 0, 1) := by decide +kernel
theorem s260_46 {d : Nat} {st : List Value} {σ : am_I} {ρ : am_R} {g : am_J} {τ : am_T} {Q : am_Q} {x1 x2 : Value} {v : Nat} : AW d 260 46 [.ref v, x1, x2] (st) σ ρ g τ Q = AW d 260 47 [.ref v, x1, x2] (.ref v :: st) σ ρ g τ Q := aw_lc m260 d260_46 rfl rfl rfl
theorem d260_47 : decode cX12_ranks 47 = .ok (.getfield 471, 3) := by decide +kernel
theorem s260_47 {d : Nat} {st : List Value} {σ : am_I} {ρ : am_R} {g : am_J} {τ : am_T} {Q : am_Q} {x0 x1 x2 : Value} {a : Nat} (ht : τ.1 a = 12) : AW d 260 47 [x0, x1, x2] (.ref a :: st) σ ρ g τ Q = AW d 260 50 [x0, x1, x2] (.int (σ a 71) :: st) σ ρ g τ Q := aw_gi m260 d260_47 rfl rfl rfl ht
theorem d260_50 : decode cX12_ranks 50 = .ok (.ixor, 1) := by decide +kernel
theorem s260_50 {d : Nat} {st : List Value} {σ : am_I} {ρ : am_R} {g : am_J} {τ : am_T} {Q : am_Q} {x0 x1 x2 : Value} {v w : Int32} : AW d 260 50 [x0, x1, x2] (.int w :: .int v :: st) σ ρ g τ Q = AW d 260 51 [x0, x1, x2] (.int (v ^^^ w) :: st) σ ρ g τ Q := aw_lc m260 d260_50 rfl rfl rfl
theorem d260_51 : decode cX12_ranks 51 = .ok (.ireturn, 1) := by decide +kernel
theorem s260_51 {d : Nat} {σ : am_I} {ρ : am_R} {g : am_J} {τ : am_T} {Q : am_Q} {x0 x1 x2 : Value} {v : Int32} : AW d 260 51 [x0, x1, x2] ([.int v]) σ ρ g τ Q = Q (some (.int v)) σ ρ g τ := aw_ri m260 d260_51 rfl
theorem d260_52 : decode cX12_ranks 52 = .ok (.iload_n 1, 1) := by decide +kernel
theorem s260_52 {d : Nat} {st : List Value} {σ : am_I} {ρ : am_R} {g : am_J} {τ : am_T} {Q : am_Q} {x0 x2 : Value} {v : Int32} : AW d 260 52 [x0, .int v, x2] (st) σ ρ g τ Q = AW d 260 53 [x0, .int v, x2] (.int v :: st) σ ρ g τ Q := aw_lc m260 d260_52 rfl rfl rfl
theorem d260_53 : decode cX12_ranks 53 = .ok (.ifCond .eq 13, 3) := by decide +kernel
theorem s260_53 {d : Nat} {st : List Value} {σ : am_I} {ρ : am_R} {g : am_J} {τ : am_T} {Q : am_Q} {x0 x1 x2 : Value} {v : Int32} : AW d 260 53 [x0, x1, x2] (.int v :: st) σ ρ g τ Q = if v = 0 then AW d 260 66 [x0, x1, x2] (st) σ ρ g τ Q else AW d 260 56 [x0, x1, x2] (st) σ ρ g τ Q := aw_br m260 d260_53 rfl rfl rfl
theorem d260_56 : decode cX12_ranks 56 = .ok (.aload_n 0, 1) := by decide +kernel
theorem s260_56 {d : Nat} {st : List Value} {σ : am_I} {ρ : am_R} {g : am_J} {τ : am_T} {Q : am_Q} {x1 x2 : Value} {v : Nat} : AW d 260 56 [.ref v, x1, x2] (st) σ ρ g τ Q = AW d 260 57 [.ref v, x1, x2] (.ref v :: st) σ ρ g τ Q := aw_lc m260 d260_56 rfl rfl rfl
theorem d260_57 : decode cX12_ranks 57 = .ok (.iload_n 1, 1) := by decide +kernel
theorem s260_57 {d : Nat} {st : List Value} {σ : am_I} {ρ : am_R} {g : am_J} {τ : am_T} {Q : am_Q} {x0 x2 : Value} {v : Int32} : AW d 260 57 [x0, .int v, x2] (st) σ ρ g τ Q = AW d 260 58 [x0, .int v, x2] (.int v :: st) σ ρ g τ Q := aw_lc m260 d260_57 rfl rfl rfl
theorem d260_58 : decode cX12_ranks 58 = .ok (.invokestatic 456, 3) := by decide +kernel
theorem s260_58 {d : Nat} {st : List Value} {σ : am_I} {ρ : am_R} {g : am_J} {τ : am_T} {Q : am_Q} {x0 x1 x2 : Value} {p0 : Int32} (hs : st.length ≤ 4) : AW (d + 1) 260 58 [x0, x1, x2] (.int p0 :: st) σ ρ g τ Q = AW d 258 0 [.int p0] [] σ ρ g τ (fun r9 σ ρ g τ => AW (d + 1) 260 61 [x0, x1, x2] (r9.toList ++ st) σ ρ g τ Q) := aw_cs m260 d260_58 rfl (by simp only [List.length_cons]; omega) rfl rfl en258 ok258 rfl hs
theorem d260_61 : decode cX12_ranks 61 = .ok (.iload_n 2, 1) := by decide +kernel
theorem s260_61 {d : Nat} {st : List Value} {σ : am_I} {ρ : am_R} {g : am_J} {τ : am_T} {Q : am_Q} {x0 x1 : Value} {v : Int32} : AW d 260 61 [x0, x1, .int v] (st) σ ρ g τ Q = AW d 260 62 [x0, x1, .int v] (.int v :: st) σ ρ g τ Q := aw_lc m260 d260_61 rfl rfl rfl
theorem d260_62 : decode cX12_ranks 62 = .ok (.invokevirtual 468, 3) := by decide +kernel
theorem s260_62 {d : Nat} {st : List Value} {σ : am_I} {ρ : am_R} {g : am_J} {τ : am_T} {Q : am_Q} {x0 x1 x2 : Value} {p0 : Nat} {p1 : Int32} {p2 : Int32} (ht : τ.1 p0 = 12) (hs : st.length ≤ 4) : AW (d + 1) 260 62 [x0, x1, x2] (.int p2 :: .int p1 :: .ref p0 :: st) σ ρ g τ Q = AW d 260 0 [.ref p0, .int p1, .int p2] [] σ ρ g τ (fun r9 σ ρ g τ => AW (d + 1) 260 65 [x0, x1, x2] (r9.toList ++ st) σ ρ g τ Q) := aw_cv m260 d260_62 rfl m260 rfl rfl (by decide) en260 ok260 rfl ht hs
theorem d260_65 : decode cX12_ranks 65 = .ok (.ireturn, 1) := by decide +kernel
theorem s260_65 {d : Nat} {σ : am_I} {ρ : am_R} {g : am_J} {τ : am_T} {Q : am_Q} {x0 x1 x2 : Value} {v : Int32} : AW d 260 65 [x0, x1, x2] ([.int v]) σ ρ g τ Q = Q (some (.int v)) σ ρ g τ := aw_ri m260 d260_65 rfl
theorem d260_66 : decode cX12_ranks 66 = .ok (.aload_n 0, 1) := by decide +kernel
theorem s260_66 {d : Nat} {st : List Value} {σ : am_I} {ρ : am_R} {g : am_J} {τ : am_T} {Q : am_Q} {x1 x2 : Value} {v : Nat} : AW d 260 66 [.ref v, x1, x2] (st) σ ρ g τ Q = AW d 260 67 [.ref v, x1, x2] (.ref v :: st) σ ρ g τ Q := aw_lc m260 d260_66 rfl rfl rfl
theorem d260_67 : decode cX12_ranks 67 = .ok (.bipush 11, 2) := by decide +kernel
theorem s260_67 {d : Nat} {st : List Value} {σ : am_I} {ρ : am_R} {g : am_J} {τ : am_T} {Q : am_Q} {x0 x1 x2 : Value} : AW d 260 67 [x0, x1, x2] (st) σ ρ g τ Q = AW d 260 69 [x0, x1, x2] (.int 11 :: st) σ ρ g τ Q := aw_lc m260 d260_67 rfl rfl rfl
theorem d260_69 : decode cX12_ranks 69 = .ok (.invokevirtual 453, 3) := by decide +kernel
theorem s260_69 {d : Nat} {st : List Value} {σ : am_I} {ρ : am_R} {g : am_J} {τ : am_T} {Q : am_Q} {x0 x1 x2 : Value} {p0 : Nat} {p1 : Int32} (ht : τ.1 p0 = 12) (hs : st.length ≤ 4) : AW (d + 1) 260 69 [x0, x1, x2] (.int p1 :: .ref p0 :: st) σ ρ g τ Q = AW d 257 0 [.ref p0, .int p1] [] σ ρ g τ (fun r9 σ ρ g τ => AW (d + 1) 260 72 [x0, x1, x2] (r9.toList ++ st) σ ρ g τ Q) := aw_cv m260 d260_69 rfl m257 rfl rfl (by decide) en257 ok257 rfl ht hs
theorem d260_72 : decode cX12_ranks 72 = .ok (.aload_n 0, 1) := by decide +kernel
theorem s260_72 {d : Nat} {st : List Value} {σ : am_I} {ρ : am_R} {g : am_J} {τ : am_T} {Q : am_Q} {x1 x2 : Value} {v : Nat} : AW d 260 72 [.ref v, x1, x2] (st) σ ρ g τ Q = AW d 260 73 [.ref v, x1, x2] (.ref v :: st) σ ρ g τ Q := aw_lc m260 d260_72 rfl rfl rfl
theorem d260_73 : decode cX12_ranks 73 = .ok (.aload_n 0, 1) := by decide +kernel
theorem s260_73 {d : Nat} {st : List Value} {σ : am_I} {ρ : am_R} {g : am_J} {τ : am_T} {Q : am_Q} {x1 x2 : Value} {v : Nat} : AW d 260 73 [.ref v, x1, x2] (st) σ ρ g τ Q = AW d 260 74 [.ref v, x1, x2] (.ref v :: st) σ ρ g τ Q := aw_lc m260 d260_73 rfl rfl rfl
theorem d260_74 : decode cX12_ranks 74 = .ok (.getfield 474, 3) := by decide +kernel
theorem s260_74 {d : Nat} {st : List Value} {σ : am_I} {ρ : am_R} {g : am_J} {τ : am_T} {Q : am_Q} {x0 x1 x2 : Value} {a : Nat} (ht : τ.1 a = 12) : AW d 260 74 [x0, x1, x2] (.ref a :: st) σ ρ g τ Q = AW d 260 77 [x0, x1, x2] (.int (σ a 70) :: st) σ ρ g τ Q := aw_gi m260 d260_74 rfl rfl rfl ht
theorem d260_77 : decode cX12_ranks 77 = .ok (.iload_n 2, 1) := by decide +kernel
theorem s260_77 {d : Nat} {st : List Value} {σ : am_I} {ρ : am_R} {g : am_J} {τ : am_T} {Q : am_Q} {x0 x1 : Value} {v : Int32} : AW d 260 77 [x0, x1, .int v] (st) σ ρ g τ Q = AW d 260 78 [x0, x1, .int v] (.int v :: st) σ ρ g τ Q := aw_lc m260 d260_77 rfl rfl rfl
theorem d260_78 : decode cX12_ranks 78 = .ok (.invokevirtual 459, 3) := by decide +kernel
theorem s260_78 {d : Nat} {st : List Value} {σ : am_I} {ρ : am_R} {g : am_J} {τ : am_T} {Q : am_Q} {x0 x1 x2 : Value} {p0 : Nat} {p1 : Int32} {p2 : Int32} (ht : τ.1 p0 = 12) (hs : st.length ≤ 4) : AW (d + 1) 260 78 [x0, x1, x2] (.int p2 :: .int p1 :: .ref p0 :: st) σ ρ g τ Q = AW d 259 0 [.ref p0, .int p1, .int p2] [] σ ρ g τ (fun r9 σ ρ g τ => AW (d + 1) 260 81 [x0, x1, x2] (r9.toList ++ st) σ ρ g τ Q) := aw_cv m260 d260_78 rfl m259 rfl rfl (by decide) en259 ok259 rfl ht hs
theorem d260_81 : decode cX12_ranks 81 = .ok (.iconst 2, 1) := by decide +kernel
theorem s260_81 {d : Nat} {st : List Value} {σ : am_I} {ρ : am_R} {g : am_J} {τ : am_T} {Q : am_Q} {x0 x1 x2 : Value} : AW d 260 81 [x0, x1, x2] (st) σ ρ g τ Q = AW d 260 82 [x0, x1, x2] (.int 2 :: st) σ ρ g τ Q := aw_lc m260 d260_81 rfl rfl rfl
theorem d260_82 : decode cX12_ranks 82 = .ok (.imul, 1) := by decide +kernel
theorem s260_82 {d : Nat} {st : List Value} {σ : am_I} {ρ : am_R} {g : am_J} {τ : am_T} {Q : am_Q} {x0 x1 x2 : Value} {v w : Int32} : AW d 260 82 [x0, x1, x2] (.int w :: .int v :: st) σ ρ g τ Q = AW d 260 83 [x0, x1, x2] (.int (v * w) :: st) σ ρ g τ Q := aw_lc m260 d260_82 rfl rfl rfl
theorem d260_83 : decode cX12_ranks 83 = .ok (.ireturn, 1) := by decide +kernel
theorem s260_83 {d : Nat} {σ : am_I} {ρ : am_R} {g : am_J} {τ : am_T} {Q : am_Q} {x0 x1 x2 : Value} {v : Int32} : AW d 260 83 [x0, x1, x2] ([.int v]) σ ρ g τ Q = Q (some (.int v)) σ ρ g τ := aw_ri m260 d260_83 rfl
theorem d261_0 : decode cX12_falls1 0 = .ok (.iload_n 1, 1) := by decide +kernel
theorem s261_0 {d : Nat} {st : List Value} {σ : am_I} {ρ : am_R} {g : am_J} {τ : am_T} {Q : am_Q} {x0 x2 x3 x4 : Value} {v : Int32} : AW d 261 0 [x0, .int v, x2, x3, x4] (st) σ ρ g τ Q = AW d 261 1 [x0, .int v, x2, x3, x4] (.int v :: st) σ ρ g τ Q := aw_lc m261 d261_0 rfl rfl rfl
theorem d261_1 : decode cX12_falls1 1 = .ok (.tableswitch 143 0 6 #[122, 143, 43, 143, 71, 143, 89], 43) := by decide +kernel
theorem s261_1_0 {d : Nat} {st : List Value} {σ : am_I} {ρ : am_R} {g : am_J} {τ : am_T} {Q : am_Q} {x0 x1 x2 x3 x4 : Value} : AW d 261 1 [x0, x1, x2, x3, x4] (.int 0 :: st) σ ρ g τ Q = AW d 261 123 [x0, x1, x2, x3, x4] (st) σ ρ g τ Q := aw_lc m261 d261_1 rfl rfl rfl
theorem s261_1_1 {d : Nat} {st : List Value} {σ : am_I} {ρ : am_R} {g : am_J} {τ : am_T} {Q : am_Q} {x0 x1 x2 x3 x4 : Value} : AW d 261 1 [x0, x1, x2, x3, x4] (.int 1 :: st) σ ρ g τ Q = AW d 261 144 [x0, x1, x2, x3, x4] (st) σ ρ g τ Q := aw_lc m261 d261_1 rfl rfl rfl
theorem s261_1_2 {d : Nat} {st : List Value} {σ : am_I} {ρ : am_R} {g : am_J} {τ : am_T} {Q : am_Q} {x0 x1 x2 x3 x4 : Value} : AW d 261 1 [x0, x1, x2, x3, x4] (.int 2 :: st) σ ρ g τ Q = AW d 261 44 [x0, x1, x2, x3, x4] (st) σ ρ g τ Q := aw_lc m261 d261_1 rfl rfl rfl
theorem s261_1_3 {d : Nat} {st : List Value} {σ : am_I} {ρ : am_R} {g : am_J} {τ : am_T} {Q : am_Q} {x0 x1 x2 x3 x4 : Value} : AW d 261 1 [x0, x1, x2, x3, x4] (.int 3 :: st) σ ρ g τ Q = AW d 261 144 [x0, x1, x2, x3, x4] (st) σ ρ g τ Q := aw_lc m261 d261_1 rfl rfl rfl
theorem s261_1_4 {d : Nat} {st : List Value} {σ : am_I} {ρ : am_R} {g : am_J} {τ : am_T} {Q : am_Q} {x0 x1 x2 x3 x4 : Value} : AW d 261 1 [x0, x1, x2, x3, x4] (.int 4 :: st) σ ρ g τ Q = AW d 261 72 [x0, x1, x2, x3, x4] (st) σ ρ g τ Q := aw_lc m261 d261_1 rfl rfl rfl
theorem s261_1_5 {d : Nat} {st : List Value} {σ : am_I} {ρ : am_R} {g : am_J} {τ : am_T} {Q : am_Q} {x0 x1 x2 x3 x4 : Value} : AW d 261 1 [x0, x1, x2, x3, x4] (.int 5 :: st) σ ρ g τ Q = AW d 261 144 [x0, x1, x2, x3, x4] (st) σ ρ g τ Q := aw_lc m261 d261_1 rfl rfl rfl
theorem s261_1_6 {d : Nat} {st : List Value} {σ : am_I} {ρ : am_R} {g : am_J} {τ : am_T} {Q : am_Q} {x0 x1 x2 x3 x4 : Value} : AW d 261 1 [x0, x1, x2, x3, x4] (.int 6 :: st) σ ρ g τ Q = AW d 261 90 [x0, x1, x2, x3, x4] (st) σ ρ g τ Q := aw_lc m261 d261_1 rfl rfl rfl
theorem s261_1_d {d : Nat} {st : List Value} {σ : am_I} {ρ : am_R} {g : am_J} {τ : am_T} {Q : am_Q} {x0 x1 x2 x3 x4 : Value} {v : Int32} (h : v.toInt < 0 ∨ 6 < v.toInt) : AW d 261 1 [x0, x1, x2, x3, x4] (.int v :: st) σ ρ g τ Q = AW d 261 144 [x0, x1, x2, x3, x4] (st) σ ρ g τ Q := aw_lc m261 d261_1 rfl rfl (by simp only [am_lc]; rw [if_pos h]; rfl)
theorem d261_44 : decode cX12_falls1 44 = .ok (.aload_n 0, 1) := by decide +kernel
theorem s261_44 {d : Nat} {st : List Value} {σ : am_I} {ρ : am_R} {g : am_J} {τ : am_T} {Q : am_Q} {x1 x2 x3 x4 : Value} {v : Nat} : AW d 261 44 [.ref v, x1, x2, x3, x4] (st) σ ρ g τ Q = AW d 261 45 [.ref v, x1, x2, x3, x4] (.ref v :: st) σ ρ g τ Q := aw_lc m261 d261_44 rfl rfl rfl
theorem d261_45 : decode cX12_falls1 45 = .ok (.bipush 31, 2) := by decide +kernel
theorem s261_45 {d : Nat} {st : List Value} {σ : am_I} {ρ : am_R} {g : am_J} {τ : am_T} {Q : am_Q} {x0 x1 x2 x3 x4 : Value} : AW d 261 45 [x0, x1, x2, x3, x4] (st) σ ρ g τ Q = AW d 261 47 [x0, x1, x2, x3, x4] (.int 31 :: st) σ ρ g τ Q := aw_lc m261 d261_45 rfl rfl rfl
theorem d261_47 : decode cX12_falls1 47 = .ok (.invokevirtual 453, 3) := by decide +kernel
theorem s261_47 {d : Nat} {st : List Value} {σ : am_I} {ρ : am_R} {g : am_J} {τ : am_T} {Q : am_Q} {x0 x1 x2 x3 x4 : Value} {p0 : Nat} {p1 : Int32} (ht : τ.1 p0 = 12) (hs : st.length ≤ 4) : AW (d + 1) 261 47 [x0, x1, x2, x3, x4] (.int p1 :: .ref p0 :: st) σ ρ g τ Q = AW d 257 0 [.ref p0, .int p1] [] σ ρ g τ (fun r9 σ ρ g τ => AW (d + 1) 261 50 [x0, x1, x2, x3, x4] (r9.toList ++ st) σ ρ g τ Q) := aw_cv m261 d261_47 rfl m257 rfl rfl (by decide) en257 ok257 rfl ht hs
theorem d261_50 : decode cX12_falls1 50 = .ok (.aload_n 0, 1) := by decide +kernel
theorem s261_50 {d : Nat} {st : List Value} {σ : am_I} {ρ : am_R} {g : am_J} {τ : am_T} {Q : am_Q} {x1 x2 x3 x4 : Value} {v : Nat} : AW d 261 50 [.ref v, x1, x2, x3, x4] (st) σ ρ g τ Q = AW d 261 51 [.ref v, x1, x2, x3, x4] (.ref v :: st) σ ρ g τ Q := aw_lc m261 d261_50 rfl rfl rfl
theorem d261_51 : decode cX12_falls1 51 = .ok (.iload_n 1, 1) := by decide +kernel
theorem s261_51 {d : Nat} {st : List Value} {σ : am_I} {ρ : am_R} {g : am_J} {τ : am_T} {Q : am_Q} {x0 x2 x3 x4 : Value} {v : Int32} : AW d 261 51 [x0, .int v, x2, x3, x4] (st) σ ρ g τ Q = AW d 261 52 [x0, .int v, x2, x3, x4] (.int v :: st) σ ρ g τ Q := aw_lc m261 d261_51 rfl rfl rfl
theorem d261_52 : decode cX12_falls1 52 = .ok (.invokestatic 456, 3) := by decide +kernel
theorem s261_52 {d : Nat} {st : List Value} {σ : am_I} {ρ : am_R} {g : am_J} {τ : am_T} {Q : am_Q} {x0 x1 x2 x3 x4 : Value} {p0 : Int32} (hs : st.length ≤ 4) : AW (d + 1) 261 52 [x0, x1, x2, x3, x4] (.int p0 :: st) σ ρ g τ Q = AW d 258 0 [.int p0] [] σ ρ g τ (fun r9 σ ρ g τ => AW (d + 1) 261 55 [x0, x1, x2, x3, x4] (r9.toList ++ st) σ ρ g τ Q) := aw_cs m261 d261_52 rfl (by simp only [List.length_cons]; omega) rfl rfl en258 ok258 rfl hs
theorem d261_55 : decode cX12_falls1 55 = .ok (.iload_n 2, 1) := by decide +kernel
theorem s261_55 {d : Nat} {st : List Value} {σ : am_I} {ρ : am_R} {g : am_J} {τ : am_T} {Q : am_Q} {x0 x1 x3 x4 : Value} {v : Int32} : AW d 261 55 [x0, x1, .int v, x3, x4] (st) σ ρ g τ Q = AW d 261 56 [x0, x1, .int v, x3, x4] (.int v :: st) σ ρ g τ Q := aw_lc m261 d261_55 rfl rfl rfl
theorem d261_56 : decode cX12_falls1 56 = .ok (.invokevirtual 477, 3) := by decide +kernel
theorem s261_56 {d : Nat} {st : List Value} {σ : am_I} {ρ : am_R} {g : am_J} {τ : am_T} {Q : am_Q} {x0 x1 x2 x3 x4 : Value} {p0 : Nat} {p1 : Int32} {p2 : Int32} (ht : τ.1 p0 = 12) (hs : st.length ≤ 4) : AW (d + 1) 261 56 [x0, x1, x2, x3, x4] (.int p2 :: .int p1 :: .ref p0 :: st) σ ρ g τ Q = AW d 261 0 [.ref p0, .int p1, .int p2, am_jk, am_jk] [] σ ρ g τ (fun r9 σ ρ g τ => AW (d + 1) 261 59 [x0, x1, x2, x3, x4] (r9.toList ++ st) σ ρ g τ Q) := aw_cv m261 d261_56 rfl m261 rfl rfl (by decide) en261 ok261 rfl ht hs
theorem d261_59 : decode cX12_falls1 59 = .ok (.istore_n 3, 1) := by decide +kernel
theorem s261_59 {d : Nat} {st : List Value} {σ : am_I} {ρ : am_R} {g : am_J} {τ : am_T} {Q : am_Q} {x0 x1 x3 x4 : Value} {v : Int32} {u : Int32} : AW d 261 59 [x0, x1, .int u, x3, x4] (.int v :: st) σ ρ g τ Q = AW d 261 60 [x0, x1, .int u, .int v, x4] (st) σ ρ g τ Q := aw_lc m261 d261_59 rfl rfl rfl
theorem d261_60 : decode cX12_falls1 60 = .ok (.iload_n 3, 1) := by decide +kernel
theorem s261_60 {d : Nat} {st : List Value} {σ : am_I} {ρ : am_R} {g : am_J} {τ : am_T} {Q : am_Q} {x0 x1 x2 x4 : Value} {v : Int32} : AW d 261 60 [x0, x1, x2, .int v, x4] (st) σ ρ g τ Q = AW d 261 61 [x0, x1, x2, .int v, x4] (.int v :: st) σ ρ g τ Q := aw_lc m261 d261_60 rfl rfl rfl
theorem d261_61 : decode cX12_falls1 61 = .ok (.aload_n 0, 1) := by decide +kernel
theorem s261_61 {d : Nat} {st : List Value} {σ : am_I} {ρ : am_R} {g : am_J} {τ : am_T} {Q : am_Q} {x1 x2 x3 x4 : Value} {v : Nat} : AW d 261 61 [.ref v, x1, x2, x3, x4] (st) σ ρ g τ Q = AW d 261 62 [.ref v, x1, x2, x3, x4] (.ref v :: st) σ ρ g τ Q := aw_lc m261 d261_61 rfl rfl rfl
theorem d261_62 : decode cX12_falls1 62 = .ok (.aload_n 0, 1) := by decide +kernel
theorem s261_62 {d : Nat} {st : List Value} {σ : am_I} {ρ : am_R} {g : am_J} {τ : am_T} {Q : am_Q} {x1 x2 x3 x4 : Value} {v : Nat} : AW d 261 62 [.ref v, x1, x2, x3, x4] (st) σ ρ g τ Q = AW d 261 63 [.ref v, x1, x2, x3, x4] (.ref v :: st) σ ρ g τ Q := aw_lc m261 d261_62 rfl rfl rfl
theorem d261_63 : decode cX12_falls1 63 = .ok (.getfield 474, 3) := by decide +kernel
theorem s261_63 {d : Nat} {st : List Value} {σ : am_I} {ρ : am_R} {g : am_J} {τ : am_T} {Q : am_Q} {x0 x1 x2 x3 x4 : Value} {a : Nat} (ht : τ.1 a = 12) : AW d 261 63 [x0, x1, x2, x3, x4] (.ref a :: st) σ ρ g τ Q = AW d 261 66 [x0, x1, x2, x3, x4] (.int (σ a 70) :: st) σ ρ g τ Q := aw_gi m261 d261_63 rfl rfl rfl ht
theorem d261_66 : decode cX12_falls1 66 = .ok (.iconst 1, 1) := by decide +kernel
theorem s261_66 {d : Nat} {st : List Value} {σ : am_I} {ρ : am_R} {g : am_J} {τ : am_T} {Q : am_Q} {x0 x1 x2 x3 x4 : Value} : AW d 261 66 [x0, x1, x2, x3, x4] (st) σ ρ g τ Q = AW d 261 67 [x0, x1, x2, x3, x4] (.int 1 :: st) σ ρ g τ Q := aw_lc m261 d261_66 rfl rfl rfl
theorem d261_67 : decode cX12_falls1 67 = .ok (.invokevirtual 468, 3) := by decide +kernel
theorem s261_67 {d : Nat} {st : List Value} {σ : am_I} {ρ : am_R} {g : am_J} {τ : am_T} {Q : am_Q} {x0 x1 x2 x3 x4 : Value} {p0 : Nat} {p1 : Int32} {p2 : Int32} (ht : τ.1 p0 = 12) (hs : st.length ≤ 4) : AW (d + 1) 261 67 [x0, x1, x2, x3, x4] (.int p2 :: .int p1 :: .ref p0 :: st) σ ρ g τ Q = AW d 260 0 [.ref p0, .int p1, .int p2] [] σ ρ g τ (fun r9 σ ρ g τ => AW (d + 1) 261 70 [x0, x1, x2, x3, x4] (r9.toList ++ st) σ ρ g τ Q) := aw_cv m261 d261_67 rfl m260 rfl rfl (by decide) en260 ok260 rfl ht hs
theorem d261_70 : decode cX12_falls1 70 = .ok (.iadd, 1) := by decide +kernel
theorem s261_70 {d : Nat} {st : List Value} {σ : am_I} {ρ : am_R} {g : am_J} {τ : am_T} {Q : am_Q} {x0 x1 x2 x3 x4 : Value} {v w : Int32} : AW d 261 70 [x0, x1, x2, x3, x4] (.int w :: .int v :: st) σ ρ g τ Q = AW d 261 71 [x0, x1, x2, x3, x4] (.int (v + w) :: st) σ ρ g τ Q := aw_lc m261 d261_70 rfl rfl rfl
theorem d261_71 : decode cX12_falls1 71 = .ok (.ireturn, 1) := by decide +kernel
theorem s261_71 {d : Nat} {σ : am_I} {ρ : am_R} {g : am_J} {τ : am_T} {Q : am_Q} {x0 x1 x2 x3 x4 : Value} {v : Int32} : AW d 261 71 [x0, x1, x2, x3, x4] ([.int v]) σ ρ g τ Q = Q (some (.int v)) σ ρ g τ := aw_ri m261 d261_71 rfl
theorem d261_72 : decode cX12_falls1 72 = .ok (.aload_n 0, 1) := by decide +kernel
theorem s261_72 {d : Nat} {st : List Value} {σ : am_I} {ρ : am_R} {g : am_J} {τ : am_T} {Q : am_Q} {x1 x2 x3 x4 : Value} {v : Nat} : AW d 261 72 [.ref v, x1, x2, x3, x4] (st) σ ρ g τ Q = AW d 261 73 [.ref v, x1, x2, x3, x4] (.ref v :: st) σ ρ g τ Q := aw_lc m261 d261_72 rfl rfl rfl
theorem d261_73 : decode cX12_falls1 73 = .ok (.bipush 50, 2) := by decide +kernel
theorem s261_73 {d : Nat} {st : List Value} {σ : am_I} {ρ : am_R} {g : am_J} {τ : am_T} {Q : am_Q} {x0 x1 x2 x3 x4 : Value} : AW d 261 73 [x0, x1, x2, x3, x4] (st) σ ρ g τ Q = AW d 261 75 [x0, x1, x2, x3, x4] (.int 50 :: st) σ ρ g τ Q := aw_lc m261 d261_73 rfl rfl rfl
theorem d261_75 : decode cX12_falls1 75 = .ok (.invokevirtual 453, 3) := by decide +kernel
theorem s261_75 {d : Nat} {st : List Value} {σ : am_I} {ρ : am_R} {g : am_J} {τ : am_T} {Q : am_Q} {x0 x1 x2 x3 x4 : Value} {p0 : Nat} {p1 : Int32} (ht : τ.1 p0 = 12) (hs : st.length ≤ 4) : AW (d + 1) 261 75 [x0, x1, x2, x3, x4] (.int p1 :: .ref p0 :: st) σ ρ g τ Q = AW d 257 0 [.ref p0, .int p1] [] σ ρ g τ (fun r9 σ ρ g τ => AW (d + 1) 261 78 [x0, x1, x2, x3, x4] (r9.toList ++ st) σ ρ g τ Q) := aw_cv m261 d261_75 rfl m257 rfl rfl (by decide) en257 ok257 rfl ht hs
theorem d261_78 : decode cX12_falls1 78 = .ok (.aload_n 0, 1) := by decide +kernel
theorem s261_78 {d : Nat} {st : List Value} {σ : am_I} {ρ : am_R} {g : am_J} {τ : am_T} {Q : am_Q} {x1 x2 x3 x4 : Value} {v : Nat} : AW d 261 78 [.ref v, x1, x2, x3, x4] (st) σ ρ g τ Q = AW d 261 79 [.ref v, x1, x2, x3, x4] (.ref v :: st) σ ρ g τ Q := aw_lc m261 d261_78 rfl rfl rfl
theorem d261_79 : decode cX12_falls1 79 = .ok (.iload_n 1, 1) := by decide +kernel
theorem s261_79 {d : Nat} {st : List Value} {σ : am_I} {ρ : am_R} {g : am_J} {τ : am_T} {Q : am_Q} {x0 x2 x3 x4 : Value} {v : Int32} : AW d 261 79 [x0, .int v, x2, x3, x4] (st) σ ρ g τ Q = AW d 261 80 [x0, .int v, x2, x3, x4] (.int v :: st) σ ρ g τ Q := aw_lc m261 d261_79 rfl rfl rfl
theorem d261_80 : decode cX12_falls1 80 = .ok (.invokestatic 456, 3) := by decide +kernel
theorem s261_80 {d : Nat} {st : List Value} {σ : am_I} {ρ : am_R} {g : am_J} {τ : am_T} {Q : am_Q} {x0 x1 x2 x3 x4 : Value} {p0 : Int32} (hs : st.length ≤ 4) : AW (d + 1) 261 80 [x0, x1, x2, x3, x4] (.int p0 :: st) σ ρ g τ Q = AW d 258 0 [.int p0] [] σ ρ g τ (fun r9 σ ρ g τ => AW (d + 1) 261 83 [x0, x1, x2, x3, x4] (r9.toList ++ st) σ ρ g τ Q) := aw_cs m261 d261_80 rfl (by simp only [List.length_cons]; omega) rfl rfl en258 ok258 rfl hs
theorem d261_83 : decode cX12_falls1 83 = .ok (.iload_n 2, 1) := by decide +kernel
theorem s261_83 {d : Nat} {st : List Value} {σ : am_I} {ρ : am_R} {g : am_J} {τ : am_T} {Q : am_Q} {x0 x1 x3 x4 : Value} {v : Int32} : AW d 261 83 [x0, x1, .int v, x3, x4] (st) σ ρ g τ Q = AW d 261 84 [x0, x1, .int v, x3, x4] (.int v :: st) σ ρ g τ Q := aw_lc m261 d261_83 rfl rfl rfl
theorem d261_84 : decode cX12_falls1 84 = .ok (.invokevirtual 477, 3) := by decide +kernel
theorem s261_84 {d : Nat} {st : List Value} {σ : am_I} {ρ : am_R} {g : am_J} {τ : am_T} {Q : am_Q} {x0 x1 x2 x3 x4 : Value} {p0 : Nat} {p1 : Int32} {p2 : Int32} (ht : τ.1 p0 = 12) (hs : st.length ≤ 4) : AW (d + 1) 261 84 [x0, x1, x2, x3, x4] (.int p2 :: .int p1 :: .ref p0 :: st) σ ρ g τ Q = AW d 261 0 [.ref p0, .int p1, .int p2, am_jk, am_jk] [] σ ρ g τ (fun r9 σ ρ g τ => AW (d + 1) 261 87 [x0, x1, x2, x3, x4] (r9.toList ++ st) σ ρ g τ Q) := aw_cv m261 d261_84 rfl m261 rfl rfl (by decide) en261 ok261 rfl ht hs
theorem d261_87 : decode cX12_falls1 87 = .ok (.iconst 5, 1) := by decide +kernel
theorem s261_87 {d : Nat} {st : List Value} {σ : am_I} {ρ : am_R} {g : am_J} {τ : am_T} {Q : am_Q} {x0 x1 x2 x3 x4 : Value} : AW d 261 87 [x0, x1, x2, x3, x4] (st) σ ρ g τ Q = AW d 261 88 [x0, x1, x2, x3, x4] (.int 5 :: st) σ ρ g τ Q := aw_lc m261 d261_87 rfl rfl rfl
theorem d261_88 : decode cX12_falls1 88 = .ok (.isub, 1) := by decide +kernel
theorem s261_88 {d : Nat} {st : List Value} {σ : am_I} {ρ : am_R} {g : am_J} {τ : am_T} {Q : am_Q} {x0 x1 x2 x3 x4 : Value} {v w : Int32} : AW d 261 88 [x0, x1, x2, x3, x4] (.int w :: .int v :: st) σ ρ g τ Q = AW d 261 89 [x0, x1, x2, x3, x4] (.int (v - w) :: st) σ ρ g τ Q := aw_lc m261 d261_88 rfl rfl rfl
theorem d261_89 : decode cX12_falls1 89 = .ok (.ireturn, 1) := by decide +kernel
theorem s261_89 {d : Nat} {σ : am_I} {ρ : am_R} {g : am_J} {τ : am_T} {Q : am_Q} {x0 x1 x2 x3 x4 : Value} {v : Int32} : AW d 261 89 [x0, x1, x2, x3, x4] ([.int v]) σ ρ g τ Q = Q (some (.int v)) σ ρ g τ := aw_ri m261 d261_89 rfl
theorem d261_90 : decode cX12_falls1 90 = .ok (.aload_n 0, 1) := by decide +kernel
theorem s261_90 {d : Nat} {st : List Value} {σ : am_I} {ρ : am_R} {g : am_J} {τ : am_T} {Q : am_Q} {x1 x2 x3 x4 : Value} {v : Nat} : AW d 261 90 [.ref v, x1, x2, x3, x4] (st) σ ρ g τ Q = AW d 261 91 [.ref v, x1, x2, x3, x4] (.ref v :: st) σ ρ g τ Q := aw_lc m261 d261_90 rfl rfl rfl
theorem d261_91 : decode cX12_falls1 91 = .ok (.bipush 70, 2) := by decide +kernel
theorem s261_91 {d : Nat} {st : List Value} {σ : am_I} {ρ : am_R} {g : am_J} {τ : am_T} {Q : am_Q} {x0 x1 x2 x3 x4 : Value} : AW d 261 91 [x0, x1, x2, x3, x4] (st) σ ρ g τ Q = AW d 261 93 [x0, x1, x2, x3, x4] (.int 70 :: st) σ ρ g τ Q := aw_lc m261 d261_91 rfl rfl rfl
theorem d261_93 : decode cX12_falls1 93 = .ok (.invokevirtual 453, 3) := by decide +kernel
theorem s261_93 {d : Nat} {st : List Value} {σ : am_I} {ρ : am_R} {g : am_J} {τ : am_T} {Q : am_Q} {x0 x1 x2 x3 x4 : Value} {p0 : Nat} {p1 : Int32} (ht : τ.1 p0 = 12) (hs : st.length ≤ 4) : AW (d + 1) 261 93 [x0, x1, x2, x3, x4] (.int p1 :: .ref p0 :: st) σ ρ g τ Q = AW d 257 0 [.ref p0, .int p1] [] σ ρ g τ (fun r9 σ ρ g τ => AW (d + 1) 261 96 [x0, x1, x2, x3, x4] (r9.toList ++ st) σ ρ g τ Q) := aw_cv m261 d261_93 rfl m257 rfl rfl (by decide) en257 ok257 rfl ht hs
theorem d261_96 : decode cX12_falls1 96 = .ok (.aload_n 0, 1) := by decide +kernel
theorem s261_96 {d : Nat} {st : List Value} {σ : am_I} {ρ : am_R} {g : am_J} {τ : am_T} {Q : am_Q} {x1 x2 x3 x4 : Value} {v : Nat} : AW d 261 96 [.ref v, x1, x2, x3, x4] (st) σ ρ g τ Q = AW d 261 97 [.ref v, x1, x2, x3, x4] (.ref v :: st) σ ρ g τ Q := aw_lc m261 d261_96 rfl rfl rfl
theorem d261_97 : decode cX12_falls1 97 = .ok (.iload_n 1, 1) := by decide +kernel
theorem s261_97 {d : Nat} {st : List Value} {σ : am_I} {ρ : am_R} {g : am_J} {τ : am_T} {Q : am_Q} {x0 x2 x3 x4 : Value} {v : Int32} : AW d 261 97 [x0, .int v, x2, x3, x4] (st) σ ρ g τ Q = AW d 261 98 [x0, .int v, x2, x3, x4] (.int v :: st) σ ρ g τ Q := aw_lc m261 d261_97 rfl rfl rfl
theorem d261_98 : decode cX12_falls1 98 = .ok (.invokestatic 456, 3) := by decide +kernel
theorem s261_98 {d : Nat} {st : List Value} {σ : am_I} {ρ : am_R} {g : am_J} {τ : am_T} {Q : am_Q} {x0 x1 x2 x3 x4 : Value} {p0 : Int32} (hs : st.length ≤ 4) : AW (d + 1) 261 98 [x0, x1, x2, x3, x4] (.int p0 :: st) σ ρ g τ Q = AW d 258 0 [.int p0] [] σ ρ g τ (fun r9 σ ρ g τ => AW (d + 1) 261 101 [x0, x1, x2, x3, x4] (r9.toList ++ st) σ ρ g τ Q) := aw_cs m261 d261_98 rfl (by simp only [List.length_cons]; omega) rfl rfl en258 ok258 rfl hs
theorem d261_101 : decode cX12_falls1 101 = .ok (.iload_n 2, 1) := by decide +kernel
theorem s261_101 {d : Nat} {st : List Value} {σ : am_I} {ρ : am_R} {g : am_J} {τ : am_T} {Q : am_Q} {x0 x1 x3 x4 : Value} {v : Int32} : AW d 261 101 [x0, x1, .int v, x3, x4] (st) σ ρ g τ Q = AW d 261 102 [x0, x1, .int v, x3, x4] (.int v :: st) σ ρ g τ Q := aw_lc m261 d261_101 rfl rfl rfl
theorem d261_102 : decode cX12_falls1 102 = .ok (.invokevirtual 477, 3) := by decide +kernel
theorem s261_102 {d : Nat} {st : List Value} {σ : am_I} {ρ : am_R} {g : am_J} {τ : am_T} {Q : am_Q} {x0 x1 x2 x3 x4 : Value} {p0 : Nat} {p1 : Int32} {p2 : Int32} (ht : τ.1 p0 = 12) (hs : st.length ≤ 4) : AW (d + 1) 261 102 [x0, x1, x2, x3, x4] (.int p2 :: .int p1 :: .ref p0 :: st) σ ρ g τ Q = AW d 261 0 [.ref p0, .int p1, .int p2, am_jk, am_jk] [] σ ρ g τ (fun r9 σ ρ g τ => AW (d + 1) 261 105 [x0, x1, x2, x3, x4] (r9.toList ++ st) σ ρ g τ Q) := aw_cv m261 d261_102 rfl m261 rfl rfl (by decide) en261 ok261 rfl ht hs
theorem d261_105 : decode cX12_falls1 105 = .ok (.istore 4, 2) := by decide +kernel
theorem s261_105x {d : Nat} {st : List Value} {σ : am_I} {ρ : am_R} {g : am_J} {τ : am_T} {Q : am_Q} {x0 x1 x2 x4 : Value} {v : Int32} : AW d 261 105 [x0, x1, x2, am_jk, x4] (.int v :: st) σ ρ g τ Q = AW d 261 107 [x0, x1, x2, am_jk, .int v] (st) σ ρ g τ Q := aw_lc m261 d261_105 rfl rfl rfl
theorem d261_107 : decode cX12_falls1 107 = .ok (.iload 4, 2) := by decide +kernel
theorem s261_107 {d : Nat} {st : List Value} {σ : am_I} {ρ : am_R} {g : am_J} {τ : am_T} {Q : am_Q} {x0 x1 x2 x3 : Value} {v : Int32} : AW d 261 107 [x0, x1, x2, x3, .int v] (st) σ ρ g τ Q = AW d 261 109 [x0, x1, x2, x3, .int v] (.int v :: st) σ ρ g τ Q := aw_lc m261 d261_107 rfl rfl rfl
theorem d261_109 : decode cX12_falls1 109 = .ok (.aload_n 0, 1) := by decide +kernel
theorem s261_109 {d : Nat} {st : List Value} {σ : am_I} {ρ : am_R} {g : am_J} {τ : am_T} {Q : am_Q} {x1 x2 x3 x4 : Value} {v : Nat} : AW d 261 109 [.ref v, x1, x2, x3, x4] (st) σ ρ g τ Q = AW d 261 110 [.ref v, x1, x2, x3, x4] (.ref v :: st) σ ρ g τ Q := aw_lc m261 d261_109 rfl rfl rfl
theorem d261_110 : decode cX12_falls1 110 = .ok (.aload_n 0, 1) := by decide +kernel
theorem s261_110 {d : Nat} {st : List Value} {σ : am_I} {ρ : am_R} {g : am_J} {τ : am_T} {Q : am_Q} {x1 x2 x3 x4 : Value} {v : Nat} : AW d 261 110 [.ref v, x1, x2, x3, x4] (st) σ ρ g τ Q = AW d 261 111 [.ref v, x1, x2, x3, x4] (.ref v :: st) σ ρ g τ Q := aw_lc m261 d261_110 rfl rfl rfl
theorem d261_111 : decode cX12_falls1 111 = .ok (.getfield 474, 3) := by decide +kernel
theorem s261_111 {d : Nat} {st : List Value} {σ : am_I} {ρ : am_R} {g : am_J} {τ : am_T} {Q : am_Q} {x0 x1 x2 x3 x4 : Value} {a : Nat} (ht : τ.1 a = 12) : AW d 261 111 [x0, x1, x2, x3, x4] (.ref a :: st) σ ρ g τ Q = AW d 261 114 [x0, x1, x2, x3, x4] (.int (σ a 70) :: st) σ ρ g τ Q := aw_gi m261 d261_111 rfl rfl rfl ht
theorem d261_114 : decode cX12_falls1 114 = .ok (.aload_n 0, 1) := by decide +kernel
theorem s261_114 {d : Nat} {st : List Value} {σ : am_I} {ρ : am_R} {g : am_J} {τ : am_T} {Q : am_Q} {x1 x2 x3 x4 : Value} {v : Nat} : AW d 261 114 [.ref v, x1, x2, x3, x4] (st) σ ρ g τ Q = AW d 261 115 [.ref v, x1, x2, x3, x4] (.ref v :: st) σ ρ g τ Q := aw_lc m261 d261_114 rfl rfl rfl
theorem d261_115 : decode cX12_falls1 115 = .ok (.getfield 471, 3) := by decide +kernel
theorem s261_115 {d : Nat} {st : List Value} {σ : am_I} {ρ : am_R} {g : am_J} {τ : am_T} {Q : am_Q} {x0 x1 x2 x3 x4 : Value} {a : Nat} (ht : τ.1 a = 12) : AW d 261 115 [x0, x1, x2, x3, x4] (.ref a :: st) σ ρ g τ Q = AW d 261 118 [x0, x1, x2, x3, x4] (.int (σ a 71) :: st) σ ρ g τ Q := aw_gi m261 d261_115 rfl rfl rfl ht
theorem d261_118 : decode cX12_falls1 118 = .ok (.invokevirtual 459, 3) := by decide +kernel
theorem s261_118 {d : Nat} {st : List Value} {σ : am_I} {ρ : am_R} {g : am_J} {τ : am_T} {Q : am_Q} {x0 x1 x2 x3 x4 : Value} {p0 : Nat} {p1 : Int32} {p2 : Int32} (ht : τ.1 p0 = 12) (hs : st.length ≤ 4) : AW (d + 1) 261 118 [x0, x1, x2, x3, x4] (.int p2 :: .int p1 :: .ref p0 :: st) σ ρ g τ Q = AW d 259 0 [.ref p0, .int p1, .int p2] [] σ ρ g τ (fun r9 σ ρ g τ => AW (d + 1) 261 121 [x0, x1, x2, x3, x4] (r9.toList ++ st) σ ρ g τ Q) := aw_cv m261 d261_118 rfl m259 rfl rfl (by decide) en259 ok259 rfl ht hs
theorem d261_121 : decode cX12_falls1 121 = .ok (.iadd, 1) := by decide +kernel
theorem s261_121 {d : Nat} {st : List Value} {σ : am_I} {ρ : am_R} {g : am_J} {τ : am_T} {Q : am_Q} {x0 x1 x2 x3 x4 : Value} {v w : Int32} : AW d 261 121 [x0, x1, x2, x3, x4] (.int w :: .int v :: st) σ ρ g τ Q = AW d 261 122 [x0, x1, x2, x3, x4] (.int (v + w) :: st) σ ρ g τ Q := aw_lc m261 d261_121 rfl rfl rfl
theorem d261_122 : decode cX12_falls1 122 = .ok (.ireturn, 1) := by decide +kernel
theorem s261_122 {d : Nat} {σ : am_I} {ρ : am_R} {g : am_J} {τ : am_T} {Q : am_Q} {x0 x1 x2 x3 x4 : Value} {v : Int32} : AW d 261 122 [x0, x1, x2, x3, x4] ([.int v]) σ ρ g τ Q = Q (some (.int v)) σ ρ g τ := aw_ri m261 d261_122 rfl
theorem d261_123 : decode cX12_falls1 123 = .ok (.aload_n 0, 1) := by decide +kernel
theorem s261_123 {d : Nat} {st : List Value} {σ : am_I} {ρ : am_R} {g : am_J} {τ : am_T} {Q : am_Q} {x1 x2 x3 x4 : Value} {v : Nat} : AW d 261 123 [.ref v, x1, x2, x3, x4] (st) σ ρ g τ Q = AW d 261 124 [.ref v, x1, x2, x3, x4] (.ref v :: st) σ ρ g τ Q := aw_lc m261 d261_123 rfl rfl rfl
theorem d261_124 : decode cX12_falls1 124 = .ok (.bipush 12, 2) := by decide +kernel
theorem s261_124 {d : Nat} {st : List Value} {σ : am_I} {ρ : am_R} {g : am_J} {τ : am_T} {Q : am_Q} {x0 x1 x2 x3 x4 : Value} : AW d 261 124 [x0, x1, x2, x3, x4] (st) σ ρ g τ Q = AW d 261 126 [x0, x1, x2, x3, x4] (.int 12 :: st) σ ρ g τ Q := aw_lc m261 d261_124 rfl rfl rfl
theorem d261_126 : decode cX12_falls1 126 = .ok (.invokevirtual 453, 3) := by decide +kernel
theorem s261_126 {d : Nat} {st : List Value} {σ : am_I} {ρ : am_R} {g : am_J} {τ : am_T} {Q : am_Q} {x0 x1 x2 x3 x4 : Value} {p0 : Nat} {p1 : Int32} (ht : τ.1 p0 = 12) (hs : st.length ≤ 4) : AW (d + 1) 261 126 [x0, x1, x2, x3, x4] (.int p1 :: .ref p0 :: st) σ ρ g τ Q = AW d 257 0 [.ref p0, .int p1] [] σ ρ g τ (fun r9 σ ρ g τ => AW (d + 1) 261 129 [x0, x1, x2, x3, x4] (r9.toList ++ st) σ ρ g τ Q) := aw_cv m261 d261_126 rfl m257 rfl rfl (by decide) en257 ok257 rfl ht hs
theorem d261_129 : decode cX12_falls1 129 = .ok (.aload_n 0, 1) := by decide +kernel
theorem s261_129 {d : Nat} {st : List Value} {σ : am_I} {ρ : am_R} {g : am_J} {τ : am_T} {Q : am_Q} {x1 x2 x3 x4 : Value} {v : Nat} : AW d 261 129 [.ref v, x1, x2, x3, x4] (st) σ ρ g τ Q = AW d 261 130 [.ref v, x1, x2, x3, x4] (.ref v :: st) σ ρ g τ Q := aw_lc m261 d261_129 rfl rfl rfl
theorem d261_130 : decode cX12_falls1 130 = .ok (.aload_n 0, 1) := by decide +kernel
theorem s261_130 {d : Nat} {st : List Value} {σ : am_I} {ρ : am_R} {g : am_J} {τ : am_T} {Q : am_Q} {x1 x2 x3 x4 : Value} {v : Nat} : AW d 261 130 [.ref v, x1, x2, x3, x4] (st) σ ρ g τ Q = AW d 261 131 [.ref v, x1, x2, x3, x4] (.ref v :: st) σ ρ g τ Q := aw_lc m261 d261_130 rfl rfl rfl
theorem d261_131 : decode cX12_falls1 131 = .ok (.getfield 474, 3) := by decide +kernel
theorem s261_131 {d : Nat} {st : List Value} {σ : am_I} {ρ : am_R} {g : am_J} {τ : am_T} {Q : am_Q} {x0 x1 x2 x3 x4 : Value} {a : Nat} (ht : τ.1 a = 12) : AW d 261 131 [x0, x1, x2, x3, x4] (.ref a :: st) σ ρ g τ Q = AW d 261 134 [x0, x1, x2, x3, x4] (.int (σ a 70) :: st) σ ρ g τ Q := aw_gi m261 d261_131 rfl rfl rfl ht
theorem d261_134 : decode cX12_falls1 134 = .ok (.iload_n 2, 1) := by decide +kernel
theorem s261_134 {d : Nat} {st : List Value} {σ : am_I} {ρ : am_R} {g : am_J} {τ : am_T} {Q : am_Q} {x0 x1 x3 x4 : Value} {v : Int32} : AW d 261 134 [x0, x1, .int v, x3, x4] (st) σ ρ g τ Q = AW d 261 135 [x0, x1, .int v, x3, x4] (.int v :: st) σ ρ g τ Q := aw_lc m261 d261_134 rfl rfl rfl
theorem d261_135 : decode cX12_falls1 135 = .ok (.invokevirtual 468, 3) := by decide +kernel
theorem s261_135 {d : Nat} {st : List Value} {σ : am_I} {ρ : am_R} {g : am_J} {τ : am_T} {Q : am_Q} {x0 x1 x2 x3 x4 : Value} {p0 : Nat} {p1 : Int32} {p2 : Int32} (ht : τ.1 p0 = 12) (hs : st.length ≤ 4) : AW (d + 1) 261 135 [x0, x1, x2, x3, x4] (.int p2 :: .int p1 :: .ref p0 :: st) σ ρ g τ Q = AW d 260 0 [.ref p0, .int p1, .int p2] [] σ ρ g τ (fun r9 σ ρ g τ => AW (d + 1) 261 138 [x0, x1, x2, x3, x4] (r9.toList ++ st) σ ρ g τ Q) := aw_cv m261 d261_135 rfl m260 rfl rfl (by decide) en260 ok260 rfl ht hs
theorem d261_138 : decode cX12_falls1 138 = .ok (.aload_n 0, 1) := by decide +kernel
theorem s261_138 {d : Nat} {st : List Value} {σ : am_I} {ρ : am_R} {g : am_J} {τ : am_T} {Q : am_Q} {x1 x2 x3 x4 : Value} {v : Nat} : AW d 261 138 [.ref v, x1, x2, x3, x4] (st) σ ρ g τ Q = AW d 261 139 [.ref v, x1, x2, x3, x4] (.ref v :: st) σ ρ g τ Q := aw_lc m261 d261_138 rfl rfl rfl
theorem d261_139 : decode cX12_falls1 139 = .ok (.getfield 465, 3) := by decide +kernel
theorem s261_139 {d : Nat} {st : List Value} {σ : am_I} {ρ : am_R} {g : am_J} {τ : am_T} {Q : am_Q} {x0 x1 x2 x3 x4 : Value} {a : Nat} (ht : τ.1 a = 12) : AW d 261 139 [x0, x1, x2, x3, x4] (.ref a :: st) σ ρ g τ Q = AW d 261 142 [x0, x1, x2, x3, x4] (.int (σ a 72) :: st) σ ρ g τ Q := aw_gi m261 d261_139 rfl rfl rfl ht
theorem d261_142 : decode cX12_falls1 142 = .ok (.isub, 1) := by decide +kernel
theorem s261_142 {d : Nat} {st : List Value} {σ : am_I} {ρ : am_R} {g : am_J} {τ : am_T} {Q : am_Q} {x0 x1 x2 x3 x4 : Value} {v w : Int32} : AW d 261 142 [x0, x1, x2, x3, x4] (.int w :: .int v :: st) σ ρ g τ Q = AW d 261 143 [x0, x1, x2, x3, x4] (.int (v - w) :: st) σ ρ g τ Q := aw_lc m261 d261_142 rfl rfl rfl
theorem d261_143 : decode cX12_falls1 143 = .ok (.ireturn, 1) := by decide +kernel
theorem s261_143 {d : Nat} {σ : am_I} {ρ : am_R} {g : am_J} {τ : am_T} {Q : am_Q} {x0 x1 x2 x3 x4 : Value} {v : Int32} : AW d 261 143 [x0, x1, x2, x3, x4] ([.int v]) σ ρ g τ Q = Q (some (.int v)) σ ρ g τ := aw_ri m261 d261_143 rfl
theorem d261_144 : decode cX12_falls1 144 = .ok (.aload_n 0, 1) := by decide +kernel
theorem s261_144 {d : Nat} {st : List Value} {σ : am_I} {ρ : am_R} {g : am_J} {τ : am_T} {Q : am_Q} {x1 x2 x3 x4 : Value} {v : Nat} : AW d 261 144 [.ref v, x1, x2, x3, x4] (st) σ ρ g τ Q = AW d 261 145 [.ref v, x1, x2, x3, x4] (.ref v :: st) σ ρ g τ Q := aw_lc m261 d261_144 rfl rfl rfl
theorem d261_145 : decode cX12_falls1 145 = .ok (.iload_n 1, 1) := by decide +kernel
theorem s261_145 {d : Nat} {st : List Value} {σ : am_I} {ρ : am_R} {g : am_J} {τ : am_T} {Q : am_Q} {x0 x2 x3 x4 : Value} {v : Int32} : AW d 261 145 [x0, .int v, x2, x3, x4] (st) σ ρ g τ Q = AW d 261 146 [x0, .int v, x2, x3, x4] (.int v :: st) σ ρ g τ Q := aw_lc m261 d261_145 rfl rfl rfl
theorem d261_146 : decode cX12_falls1 146 = .ok (.invokestatic 456, 3) := by decide +kernel
theorem s261_146 {d : Nat} {st : List Value} {σ : am_I} {ρ : am_R} {g : am_J} {τ : am_T} {Q : am_Q} {x0 x1 x2 x3 x4 : Value} {p0 : Int32} (hs : st.length ≤ 4) : AW (d + 1) 261 146 [x0, x1, x2, x3, x4] (.int p0 :: st) σ ρ g τ Q = AW d 258 0 [.int p0] [] σ ρ g τ (fun r9 σ ρ g τ => AW (d + 1) 261 149 [x0, x1, x2, x3, x4] (r9.toList ++ st) σ ρ g τ Q) := aw_cs m261 d261_146 rfl (by simp only [List.length_cons]; omega) rfl rfl en258 ok258 rfl hs
theorem d261_149 : decode cX12_falls1 149 = .ok (.iload_n 2, 1) := by decide +kernel
theorem s261_149 {d : Nat} {st : List Value} {σ : am_I} {ρ : am_R} {g : am_J} {τ : am_T} {Q : am_Q} {x0 x1 x3 x4 : Value} {v : Int32} : AW d 261 149 [x0, x1, .int v, x3, x4] (st) σ ρ g τ Q = AW d 261 150 [x0, x1, .int v, x3, x4] (.int v :: st) σ ρ g τ Q := aw_lc m261 d261_149 rfl rfl rfl
theorem d261_150 : decode cX12_falls1 150 = .ok (.invokevirtual 477, 3) := by decide +kernel
theorem s261_150 {d : Nat} {st : List Value} {σ : am_I} {ρ : am_R} {g : am_J} {τ : am_T} {Q : am_Q} {x0 x1 x2 x3 x4 : Value} {p0 : Nat} {p1 : Int32} {p2 : Int32} (ht : τ.1 p0 = 12) (hs : st.length ≤ 4) : AW (d + 1) 261 150 [x0, x1, x2, x3, x4] (.int p2 :: .int p1 :: .ref p0 :: st) σ ρ g τ Q = AW d 261 0 [.ref p0, .int p1, .int p2, am_jk, am_jk] [] σ ρ g τ (fun r9 σ ρ g τ => AW (d + 1) 261 153 [x0, x1, x2, x3, x4] (r9.toList ++ st) σ ρ g τ Q) := aw_cv m261 d261_150 rfl m261 rfl rfl (by decide) en261 ok261 rfl ht hs
theorem d261_153 : decode cX12_falls1 153 = .ok (.ireturn, 1) := by decide +kernel
theorem s261_153 {d : Nat} {σ : am_I} {ρ : am_R} {g : am_J} {τ : am_T} {Q : am_Q} {x0 x1 x2 x3 x4 : Value} {v : Int32} : AW d 261 153 [x0, x1, x2, x3, x4] ([.int v]) σ ρ g τ Q = Q (some (.int v)) σ ρ g τ := aw_ri m261 d261_153 rfl
theorem d262_0 : decode cX12_tells 0 = .ok (.iload_n 1, 1) := by decide +kernel
theorem s262_0 {d : Nat} {st : List Value} {σ : am_I} {ρ : am_R} {g : am_J} {τ : am_T} {Q : am_Q} {x0 x2 : Value} {v : Int32} : AW d 262 0 [x0, .int v, x2] (st) σ ρ g τ Q = AW d 262 1 [x0, .int v, x2] (.int v :: st) σ ρ g τ Q := aw_lc m262 d262_0 rfl rfl rfl
theorem d262_1 : decode cX12_tells 1 = .ok (.iconst 3, 1) := by decide +kernel
theorem s262_1 {d : Nat} {st : List Value} {σ : am_I} {ρ : am_R} {g : am_J} {τ : am_T} {Q : am_Q} {x0 x1 x2 : Value} : AW d 262 1 [x0, x1, x2] (st) σ ρ g τ Q = AW d 262 2 [x0, x1, x2] (.int 3 :: st) σ ρ g τ Q := aw_lc m262 d262_1 rfl rfl rfl
theorem d262_2 : decode cX12_tells 2 = .ok (.if_icmp .ne 21, 3) := by decide +kernel
theorem s262_2 {d : Nat} {st : List Value} {σ : am_I} {ρ : am_R} {g : am_J} {τ : am_T} {Q : am_Q} {x0 x1 x2 : Value} {v w : Int32} : AW d 262 2 [x0, x1, x2] (.int w :: .int v :: st) σ ρ g τ Q = if ¬ v = w then AW d 262 23 [x0, x1, x2] (st) σ ρ g τ Q else AW d 262 5 [x0, x1, x2] (st) σ ρ g τ Q := aw_br m262 d262_2 rfl rfl rfl
theorem d262_5 : decode cX12_tells 5 = .ok (.aload_n 0, 1) := by decide +kernel
theorem s262_5 {d : Nat} {st : List Value} {σ : am_I} {ρ : am_R} {g : am_J} {τ : am_T} {Q : am_Q} {x1 x2 : Value} {v : Nat} : AW d 262 5 [.ref v, x1, x2] (st) σ ρ g τ Q = AW d 262 6 [.ref v, x1, x2] (.ref v :: st) σ ρ g τ Q := aw_lc m262 d262_5 rfl rfl rfl
theorem d262_6 : decode cX12_tells 6 = .ok (.bipush 41, 2) := by decide +kernel
theorem s262_6 {d : Nat} {st : List Value} {σ : am_I} {ρ : am_R} {g : am_J} {τ : am_T} {Q : am_Q} {x0 x1 x2 : Value} : AW d 262 6 [x0, x1, x2] (st) σ ρ g τ Q = AW d 262 8 [x0, x1, x2] (.int 41 :: st) σ ρ g τ Q := aw_lc m262 d262_6 rfl rfl rfl
theorem d262_8 : decode cX12_tells 8 = .ok (.invokevirtual 453, 3) := by decide +kernel
theorem s262_8 {d : Nat} {st : List Value} {σ : am_I} {ρ : am_R} {g : am_J} {τ : am_T} {Q : am_Q} {x0 x1 x2 : Value} {p0 : Nat} {p1 : Int32} (ht : τ.1 p0 = 12) (hs : st.length ≤ 4) : AW (d + 1) 262 8 [x0, x1, x2] (.int p1 :: .ref p0 :: st) σ ρ g τ Q = AW d 257 0 [.ref p0, .int p1] [] σ ρ g τ (fun r9 σ ρ g τ => AW (d + 1) 262 11 [x0, x1, x2] (r9.toList ++ st) σ ρ g τ Q) := aw_cv m262 d262_8 rfl m257 rfl rfl (by decide) en257 ok257 rfl ht hs
theorem d262_11 : decode cX12_tells 11 = .ok (.aload_n 0, 1) := by decide +kernel
theorem s262_11 {d : Nat} {st : List Value} {σ : am_I} {ρ : am_R} {g : am_J} {τ : am_T} {Q : am_Q} {x1 x2 : Value} {v : Nat} : AW d 262 11 [.ref v, x1, x2] (st) σ ρ g τ Q = AW d 262 12 [.ref v, x1, x2] (.ref v :: st) σ ρ g τ Q := aw_lc m262 d262_11 rfl rfl rfl
theorem d262_12 : decode cX12_tells 12 = .ok (.iload_n 1, 1) := by decide +kernel
theorem s262_12 {d : Nat} {st : List Value} {σ : am_I} {ρ : am_R} {g : am_J} {τ : am_T} {Q : am_Q} {x0 x2 : Value} {v : Int32} : AW d 262 12 [x0, .int v, x2] (st) σ ρ g τ Q = AW d 262 13 [x0, .int v, x2] (.int v :: st) σ ρ g τ Q := aw_lc m262 d262_12 rfl rfl rfl
theorem d262_13 : decode cX12_tells 13 = .ok (.invokestatic 456, 3) := by decide +kernel
theorem s262_13 {d : Nat} {st : List Value} {σ : am_I} {ρ : am_R} {g : am_J} {τ : am_T} {Q : am_Q} {x0 x1 x2 : Value} {p0 : Int32} (hs : st.length ≤ 4) : AW (d + 1) 262 13 [x0, x1, x2] (.int p0 :: st) σ ρ g τ Q = AW d 258 0 [.int p0] [] σ ρ g τ (fun r9 σ ρ g τ => AW (d + 1) 262 16 [x0, x1, x2] (r9.toList ++ st) σ ρ g τ Q) := aw_cs m262 d262_13 rfl (by simp only [List.length_cons]; omega) rfl rfl en258 ok258 rfl hs
theorem d262_16 : decode cX12_tells 16 = .ok (.iload_n 2, 1) := by decide +kernel
theorem s262_16 {d : Nat} {st : List Value} {σ : am_I} {ρ : am_R} {g : am_J} {τ : am_T} {Q : am_Q} {x0 x1 : Value} {v : Int32} : AW d 262 16 [x0, x1, .int v] (st) σ ρ g τ Q = AW d 262 17 [x0, x1, .int v] (.int v :: st) σ ρ g τ Q := aw_lc m262 d262_16 rfl rfl rfl
theorem d262_17 : decode cX12_tells 17 = .ok (.iconst 2, 1) := by decide +kernel
theorem s262_17 {d : Nat} {st : List Value} {σ : am_I} {ρ : am_R} {g : am_J} {τ : am_T} {Q : am_Q} {x0 x1 x2 : Value} : AW d 262 17 [x0, x1, x2] (st) σ ρ g τ Q = AW d 262 18 [x0, x1, x2] (.int 2 :: st) σ ρ g τ Q := aw_lc m262 d262_17 rfl rfl rfl
theorem d262_18 : decode cX12_tells 18 = .ok (.isub, 1) := by decide +kernel
theorem s262_18 {d : Nat} {st : List Value} {σ : am_I} {ρ : am_R} {g : am_J} {τ : am_T} {Q : am_Q} {x0 x1 x2 : Value} {v w : Int32} : AW d 262 18 [x0, x1, x2] (.int w :: .int v :: st) σ ρ g τ Q = AW d 262 19 [x0, x1, x2] (.int (v - w) :: st) σ ρ g τ Q := aw_lc m262 d262_18 rfl rfl rfl
theorem d262_19 : decode cX12_tells 19 = .ok (.invokevirtual 480, 3) := by decide +kernel
theorem s262_19 {d : Nat} {st : List Value} {σ : am_I} {ρ : am_R} {g : am_J} {τ : am_T} {Q : am_Q} {x0 x1 x2 : Value} {p0 : Nat} {p1 : Int32} {p2 : Int32} (ht : τ.1 p0 = 12) (hs : st.length ≤ 4) : AW (d + 1) 262 19 [x0, x1, x2] (.int p2 :: .int p1 :: .ref p0 :: st) σ ρ g τ Q = AW d 262 0 [.ref p0, .int p1, .int p2] [] σ ρ g τ (fun r9 σ ρ g τ => AW (d + 1) 262 22 [x0, x1, x2] (r9.toList ++ st) σ ρ g τ Q) := aw_cv m262 d262_19 rfl m262 rfl rfl (by decide) en262 ok262 rfl ht hs
theorem d262_22 : decode cX12_tells 22 = .ok (.ireturn, 1) := by decide +kernel
theorem s262_22 {d : Nat} {σ : am_I} {ρ : am_R} {g : am_J} {τ : am_T} {Q : am_Q} {x0 x1 x2 : Value} {v : Int32} : AW d 262 22 [x0, x1, x2] ([.int v]) σ ρ g τ Q = Q (some (.int v)) σ ρ g τ := aw_ri m262 d262_22 rfl
theorem d262_23 : decode cX12_tells 23 = .ok (.iload_n 1, 1) := by decide +kernel
theorem s262_23 {d : Nat} {st : List Value} {σ : am_I} {ρ : am_R} {g : am_J} {τ : am_T} {Q : am_Q} {x0 x2 : Value} {v : Int32} : AW d 262 23 [x0, .int v, x2] (st) σ ρ g τ Q = AW d 262 24 [x0, .int v, x2] (.int v :: st) σ ρ g τ Q := aw_lc m262 d262_23 rfl rfl rfl
theorem d262_24 : decode cX12_tells 24 = .ok (.iconst 5, 1) := by decide +kernel
theorem s262_24 {d : Nat} {st : List Value} {σ : am_I} {ρ : am_R} {g : am_J} {τ : am_T} {Q : am_Q} {x0 x1 x2 : Value} : AW d 262 24 [x0, x1, x2] (st) σ ρ g τ Q = AW d 262 25 [x0, x1, x2] (.int 5 :: st) σ ρ g τ Q := aw_lc m262 d262_24 rfl rfl rfl
theorem d262_25 : decode cX12_tells 25 = .ok (.if_icmp .ne 24, 3) := by decide +kernel
theorem s262_25 {d : Nat} {st : List Value} {σ : am_I} {ρ : am_R} {g : am_J} {τ : am_T} {Q : am_Q} {x0 x1 x2 : Value} {v w : Int32} : AW d 262 25 [x0, x1, x2] (.int w :: .int v :: st) σ ρ g τ Q = if ¬ v = w then AW d 262 49 [x0, x1, x2] (st) σ ρ g τ Q else AW d 262 28 [x0, x1, x2] (st) σ ρ g τ Q := aw_br m262 d262_25 rfl rfl rfl
theorem d262_28 : decode cX12_tells 28 = .ok (.aload_n 0, 1) := by decide +kernel
theorem s262_28 {d : Nat} {st : List Value} {σ : am_I} {ρ : am_R} {g : am_J} {τ : am_T} {Q : am_Q} {x1 x2 : Value} {v : Nat} : AW d 262 28 [.ref v, x1, x2] (st) σ ρ g τ Q = AW d 262 29 [.ref v, x1, x2] (.ref v :: st) σ ρ g τ Q := aw_lc m262 d262_28 rfl rfl rfl
theorem d262_29 : decode cX12_tells 29 = .ok (.bipush 61, 2) := by decide +kernel
theorem s262_29 {d : Nat} {st : List Value} {σ : am_I} {ρ : am_R} {g : am_J} {τ : am_T} {Q : am_Q} {x0 x1 x2 : Value} : AW d 262 29 [x0, x1, x2] (st) σ ρ g τ Q = AW d 262 31 [x0, x1, x2] (.int 61 :: st) σ ρ g τ Q := aw_lc m262 d262_29 rfl rfl rfl
theorem d262_31 : decode cX12_tells 31 = .ok (.invokevirtual 453, 3) := by decide +kernel
theorem s262_31 {d : Nat} {st : List Value} {σ : am_I} {ρ : am_R} {g : am_J} {τ : am_T} {Q : am_Q} {x0 x1 x2 : Value} {p0 : Nat} {p1 : Int32} (ht : τ.1 p0 = 12) (hs : st.length ≤ 4) : AW (d + 1) 262 31 [x0, x1, x2] (.int p1 :: .ref p0 :: st) σ ρ g τ Q = AW d 257 0 [.ref p0, .int p1] [] σ ρ g τ (fun r9 σ ρ g τ => AW (d + 1) 262 34 [x0, x1, x2] (r9.toList ++ st) σ ρ g τ Q) := aw_cv m262 d262_31 rfl m257 rfl rfl (by decide) en257 ok257 rfl ht hs
theorem d262_34 : decode cX12_tells 34 = .ok (.aload_n 0, 1) := by decide +kernel
theorem s262_34 {d : Nat} {st : List Value} {σ : am_I} {ρ : am_R} {g : am_J} {τ : am_T} {Q : am_Q} {x1 x2 : Value} {v : Nat} : AW d 262 34 [.ref v, x1, x2] (st) σ ρ g τ Q = AW d 262 35 [.ref v, x1, x2] (.ref v :: st) σ ρ g τ Q := aw_lc m262 d262_34 rfl rfl rfl
theorem d262_35 : decode cX12_tells 35 = .ok (.iload_n 1, 1) := by decide +kernel
theorem s262_35 {d : Nat} {st : List Value} {σ : am_I} {ρ : am_R} {g : am_J} {τ : am_T} {Q : am_Q} {x0 x2 : Value} {v : Int32} : AW d 262 35 [x0, .int v, x2] (st) σ ρ g τ Q = AW d 262 36 [x0, .int v, x2] (.int v :: st) σ ρ g τ Q := aw_lc m262 d262_35 rfl rfl rfl
theorem d262_36 : decode cX12_tells 36 = .ok (.invokestatic 456, 3) := by decide +kernel
theorem s262_36 {d : Nat} {st : List Value} {σ : am_I} {ρ : am_R} {g : am_J} {τ : am_T} {Q : am_Q} {x0 x1 x2 : Value} {p0 : Int32} (hs : st.length ≤ 4) : AW (d + 1) 262 36 [x0, x1, x2] (.int p0 :: st) σ ρ g τ Q = AW d 258 0 [.int p0] [] σ ρ g τ (fun r9 σ ρ g τ => AW (d + 1) 262 39 [x0, x1, x2] (r9.toList ++ st) σ ρ g τ Q) := aw_cs m262 d262_36 rfl (by simp only [List.length_cons]; omega) rfl rfl en258 ok258 rfl hs
theorem d262_39 : decode cX12_tells 39 = .ok (.iload_n 2, 1) := by decide +kernel
theorem s262_39 {d : Nat} {st : List Value} {σ : am_I} {ρ : am_R} {g : am_J} {τ : am_T} {Q : am_Q} {x0 x1 : Value} {v : Int32} : AW d 262 39 [x0, x1, .int v] (st) σ ρ g τ Q = AW d 262 40 [x0, x1, .int v] (.int v :: st) σ ρ g τ Q := aw_lc m262 d262_39 rfl rfl rfl
theorem d262_40 : decode cX12_tells 40 = .ok (.invokevirtual 480, 3) := by decide +kernel
theorem s262_40 {d : Nat} {st : List Value} {σ : am_I} {ρ : am_R} {g : am_J} {τ : am_T} {Q : am_Q} {x0 x1 x2 : Value} {p0 : Nat} {p1 : Int32} {p2 : Int32} (ht : τ.1 p0 = 12) (hs : st.length ≤ 4) : AW (d + 1) 262 40 [x0, x1, x2] (.int p2 :: .int p1 :: .ref p0 :: st) σ ρ g τ Q = AW d 262 0 [.ref p0, .int p1, .int p2] [] σ ρ g τ (fun r9 σ ρ g τ => AW (d + 1) 262 43 [x0, x1, x2] (r9.toList ++ st) σ ρ g τ Q) := aw_cv m262 d262_40 rfl m262 rfl rfl (by decide) en262 ok262 rfl ht hs
theorem d262_43 : decode cX12_tells 43 = .ok (.aload_n 0, 1) := by decide +kernel
theorem s262_43 {d : Nat} {st : List Value} {σ : am_I} {ρ : am_R} {g : am_J} {τ : am_T} {Q : am_Q} {x1 x2 : Value} {v : Nat} : AW d 262 43 [.ref v, x1, x2] (st) σ ρ g τ Q = AW d 262 44 [.ref v, x1, x2] (.ref v :: st) σ ρ g τ Q := aw_lc m262 d262_43 rfl rfl rfl
theorem d262_44 : decode cX12_tells 44 = .ok (.getfield 471, 3) := by decide +kernel
theorem s262_44 {d : Nat} {st : List Value} {σ : am_I} {ρ : am_R} {g : am_J} {τ : am_T} {Q : am_Q} {x0 x1 x2 : Value} {a : Nat} (ht : τ.1 a = 12) : AW d 262 44 [x0, x1, x2] (.ref a :: st) σ ρ g τ Q = AW d 262 47 [x0, x1, x2] (.int (σ a 71) :: st) σ ρ g τ Q := aw_gi m262 d262_44 rfl rfl rfl ht
theorem d262_47 : decode cX12_tells 47 = .ok (.imul, 1) := by decide +kernel
theorem s262_47 {d : Nat} {st : List Value} {σ : am_I} {ρ : am_R} {g : am_J} {τ : am_T} {Q : am_Q} {x0 x1 x2 : Value} {v w : Int32} : AW d 262 47 [x0, x1, x2] (.int w :: .int v :: st) σ ρ g τ Q = AW d 262 48 [x0, x1, x2] (.int (v * w) :: st) σ ρ g τ Q := aw_lc m262 d262_47 rfl rfl rfl
theorem d262_48 : decode cX12_tells 48 = .ok (.ireturn, 1) := by decide +kernel
theorem s262_48 {d : Nat} {σ : am_I} {ρ : am_R} {g : am_J} {τ : am_T} {Q : am_Q} {x0 x1 x2 : Value} {v : Int32} : AW d 262 48 [x0, x1, x2] ([.int v]) σ ρ g τ Q = Q (some (.int v)) σ ρ g τ := aw_ri m262 d262_48 rfl
theorem d262_49 : decode cX12_tells 49 = .ok (.iload_n 1, 1) := by decide +kernel
theorem s262_49 {d : Nat} {st : List Value} {σ : am_I} {ρ : am_R} {g : am_J} {τ : am_T} {Q : am_Q} {x0 x2 : Value} {v : Int32} : AW d 262 49 [x0, .int v, x2] (st) σ ρ g τ Q = AW d 262 50 [x0, .int v, x2] (.int v :: st) σ ρ g τ Q := aw_lc m262 d262_49 rfl rfl rfl
theorem d262_50 : decode cX12_tells 50 = .ok (.ifCond .eq 13, 3) := by decide +kernel
theorem s262_50 {d : Nat} {st : List Value} {σ : am_I} {ρ : am_R} {g : am_J} {τ : am_T} {Q : am_Q} {x0 x1 x2 : Value} {v : Int32} : AW d 262 50 [x0, x1, x2] (.int v :: st) σ ρ g τ Q = if v = 0 then AW d 262 63 [x0, x1, x2] (st) σ ρ g τ Q else AW d 262 53 [x0, x1, x2] (st) σ ρ g τ Q := aw_br m262 d262_50 rfl rfl rfl
theorem d262_53 : decode cX12_tells 53 = .ok (.aload_n 0, 1) := by decide +kernel
theorem s262_53 {d : Nat} {st : List Value} {σ : am_I} {ρ : am_R} {g : am_J} {τ : am_T} {Q : am_Q} {x1 x2 : Value} {v : Nat} : AW d 262 53 [.ref v, x1, x2] (st) σ ρ g τ Q = AW d 262 54 [.ref v, x1, x2] (.ref v :: st) σ ρ g τ Q := aw_lc m262 d262_53 rfl rfl rfl
theorem d262_54 : decode cX12_tells 54 = .ok (.iload_n 1, 1) := by decide +kernel
theorem s262_54 {d : Nat} {st : List Value} {σ : am_I} {ρ : am_R} {g : am_J} {τ : am_T} {Q : am_Q} {x0 x2 : Value} {v : Int32} : AW d 262 54 [x0, .int v, x2] (st) σ ρ g τ Q = AW d 262 55 [x0, .int v, x2] (.int v :: st) σ ρ g τ Q := aw_lc m262 d262_54 rfl rfl rfl
theorem d262_55 : decode cX12_tells 55 = .ok (.invokestatic 456, 3) := by decide +kernel
theorem s262_55 {d : Nat} {st : List Value} {σ : am_I} {ρ : am_R} {g : am_J} {τ : am_T} {Q : am_Q} {x0 x1 x2 : Value} {p0 : Int32} (hs : st.length ≤ 4) : AW (d + 1) 262 55 [x0, x1, x2] (.int p0 :: st) σ ρ g τ Q = AW d 258 0 [.int p0] [] σ ρ g τ (fun r9 σ ρ g τ => AW (d + 1) 262 58 [x0, x1, x2] (r9.toList ++ st) σ ρ g τ Q) := aw_cs m262 d262_55 rfl (by simp only [List.length_cons]; omega) rfl rfl en258 ok258 rfl hs
theorem d262_58 : decode cX12_tells 58 = .ok (.iload_n 2, 1) := by decide +kernel
theorem s262_58 {d : Nat} {st : List Value} {σ : am_I} {ρ : am_R} {g : am_J} {τ : am_T} {Q : am_Q} {x0 x1 : Value} {v : Int32} : AW d 262 58 [x0, x1, .int v] (st) σ ρ g τ Q = AW d 262 59 [x0, x1, .int v] (.int v :: st) σ ρ g τ Q := aw_lc m262 d262_58 rfl rfl rfl
theorem d262_59 : decode cX12_tells 59 = .ok (.invokevirtual 480, 3) := by decide +kernel
theorem s262_59 {d : Nat} {st : List Value} {σ : am_I} {ρ : am_R} {g : am_J} {τ : am_T} {Q : am_Q} {x0 x1 x2 : Value} {p0 : Nat} {p1 : Int32} {p2 : Int32} (ht : τ.1 p0 = 12) (hs : st.length ≤ 4) : AW (d + 1) 262 59 [x0, x1, x2] (.int p2 :: .int p1 :: .ref p0 :: st) σ ρ g τ Q = AW d 262 0 [.ref p0, .int p1, .int p2] [] σ ρ g τ (fun r9 σ ρ g τ => AW (d + 1) 262 62 [x0, x1, x2] (r9.toList ++ st) σ ρ g τ Q) := aw_cv m262 d262_59 rfl m262 rfl rfl (by decide) en262 ok262 rfl ht hs
theorem d262_62 : decode cX12_tells 62 = .ok (.ireturn, 1) := by decide +kernel
theorem s262_62 {d : Nat} {σ : am_I} {ρ : am_R} {g : am_J} {τ : am_T} {Q : am_Q} {x0 x1 x2 : Value} {v : Int32} : AW d 262 62 [x0, x1, x2] ([.int v]) σ ρ g τ Q = Q (some (.int v)) σ ρ g τ := aw_ri m262 d262_62 rfl
theorem d262_63 : decode cX12_tells 63 = .ok (.aload_n 0, 1) := by decide +kernel
theorem s262_63 {d : Nat} {st : List Value} {σ : am_I} {ρ : am_R} {g : am_J} {τ : am_T} {Q : am_Q} {x1 x2 : Value} {v : Nat} : AW d 262 63 [.ref v, x1, x2] (st) σ ρ g τ Q = AW d 262 64 [.ref v, x1, x2] (.ref v :: st) σ ρ g τ Q := aw_lc m262 d262_63 rfl rfl rfl
theorem d262_64 : decode cX12_tells 64 = .ok (.bipush 13, 2) := by decide +kernel
theorem s262_64 {d : Nat} {st : List Value} {σ : am_I} {ρ : am_R} {g : am_J} {τ : am_T} {Q : am_Q} {x0 x1 x2 : Value} : AW d 262 64 [x0, x1, x2] (st) σ ρ g τ Q = AW d 262 66 [x0, x1, x2] (.int 13 :: st) σ ρ g τ Q := aw_lc m262 d262_64 rfl rfl rfl
theorem d262_66 : decode cX12_tells 66 = .ok (.invokevirtual 453, 3) := by decide +kernel
theorem s262_66 {d : Nat} {st : List Value} {σ : am_I} {ρ : am_R} {g : am_J} {τ : am_T} {Q : am_Q} {x0 x1 x2 : Value} {p0 : Nat} {p1 : Int32} (ht : τ.1 p0 = 12) (hs : st.length ≤ 4) : AW (d + 1) 262 66 [x0, x1, x2] (.int p1 :: .ref p0 :: st) σ ρ g τ Q = AW d 257 0 [.ref p0, .int p1] [] σ ρ g τ (fun r9 σ ρ g τ => AW (d + 1) 262 69 [x0, x1, x2] (r9.toList ++ st) σ ρ g τ Q) := aw_cv m262 d262_66 rfl m257 rfl rfl (by decide) en257 ok257 rfl ht hs
theorem d262_69 : decode cX12_tells 69 = .ok (.aload_n 0, 1) := by decide +kernel
theorem s262_69 {d : Nat} {st : List Value} {σ : am_I} {ρ : am_R} {g : am_J} {τ : am_T} {Q : am_Q} {x1 x2 : Value} {v : Nat} : AW d 262 69 [.ref v, x1, x2] (st) σ ρ g τ Q = AW d 262 70 [.ref v, x1, x2] (.ref v :: st) σ ρ g τ Q := aw_lc m262 d262_69 rfl rfl rfl
theorem d262_70 : decode cX12_tells 70 = .ok (.getfield 465, 3) := by decide +kernel
theorem s262_70 {d : Nat} {st : List Value} {σ : am_I} {ρ : am_R} {g : am_J} {τ : am_T} {Q : am_Q} {x0 x1 x2 : Value} {a : Nat} (ht : τ.1 a = 12) : AW d 262 70 [x0, x1, x2] (.ref a :: st) σ ρ g τ Q = AW d 262 73 [x0, x1, x2] (.int (σ a 72) :: st) σ ρ g τ Q := aw_gi m262 d262_70 rfl rfl rfl ht
theorem d262_73 : decode cX12_tells 73 = .ok (.aload_n 0, 1) := by decide +kernel
theorem s262_73 {d : Nat} {st : List Value} {σ : am_I} {ρ : am_R} {g : am_J} {τ : am_T} {Q : am_Q} {x1 x2 : Value} {v : Nat} : AW d 262 73 [.ref v, x1, x2] (st) σ ρ g τ Q = AW d 262 74 [.ref v, x1, x2] (.ref v :: st) σ ρ g τ Q := aw_lc m262 d262_73 rfl rfl rfl
theorem d262_74 : decode cX12_tells 74 = .ok (.getfield 471, 3) := by decide +kernel
theorem s262_74 {d : Nat} {st : List Value} {σ : am_I} {ρ : am_R} {g : am_J} {τ : am_T} {Q : am_Q} {x0 x1 x2 : Value} {a : Nat} (ht : τ.1 a = 12) : AW d 262 74 [x0, x1, x2] (.ref a :: st) σ ρ g τ Q = AW d 262 77 [x0, x1, x2] (.int (σ a 71) :: st) σ ρ g τ Q := aw_gi m262 d262_74 rfl rfl rfl ht
theorem d262_77 : decode cX12_tells 77 = .ok (.if_icmp .ne 10, 3) := by decide +kernel
theorem s262_77 {d : Nat} {st : List Value} {σ : am_I} {ρ : am_R} {g : am_J} {τ : am_T} {Q : am_Q} {x0 x1 x2 : Value} {v w : Int32} : AW d 262 77 [x0, x1, x2] (.int w :: .int v :: st) σ ρ g τ Q = if ¬ v = w then AW d 262 87 [x0, x1, x2] (st) σ ρ g τ Q else AW d 262 80 [x0, x1, x2] (st) σ ρ g τ Q := aw_br m262 d262_77 rfl rfl rfl
theorem d262_80 : decode cX12_tells 80 = .ok (.aload_n 0, 1) := by decide +kernel
theorem s262_80 {d : Nat} {st : List Value} {σ : am_I} {ρ : am_R} {g : am_J} {τ : am_T} {Q : am_Q} {x1 x2 : Value} {v : Nat} : AW d 262 80 [.ref v, x1, x2] (st) σ ρ g τ Q = AW d 262 81 [.ref v, x1, x2] (.ref v :: st) σ ρ g τ Q := aw_lc m262 d262_80 rfl rfl rfl
theorem d262_81 : decode cX12_tells 81 = .ok (.iconst 1, 1) := by decide +kernel
theorem s262_81 {d : Nat} {st : List Value} {σ : am_I} {ρ : am_R} {g : am_J} {τ : am_T} {Q : am_Q} {x0 x1 x2 : Value} : AW d 262 81 [x0, x1, x2] (st) σ ρ g τ Q = AW d 262 82 [x0, x1, x2] (.int 1 :: st) σ ρ g τ Q := aw_lc m262 d262_81 rfl rfl rfl
theorem d262_82 : decode cX12_tells 82 = .ok (.putfield 483, 3) := by decide +kernel
theorem s262_82 {d : Nat} {st : List Value} {σ : am_I} {ρ : am_R} {g : am_J} {τ : am_T} {Q : am_Q} {x0 x1 x2 : Value} {a : Nat} {v : Int32} (ht : τ.1 a = 12) (hv : am_b01 v = true) : AW d 262 82 [x0, x1, x2] (.int v :: .ref a :: st) σ ρ g τ Q = AW d 262 85 [x0, x1, x2] (st) (am_u σ a 74 v) ρ g τ Q := aw_pz m262 d262_82 rfl rfl (Or.inl rfl) rfl ht hv
theorem d262_85 : decode cX12_tells 85 = .ok (.iconst 0, 1) := by decide +kernel
theorem s262_85 {d : Nat} {st : List Value} {σ : am_I} {ρ : am_R} {g : am_J} {τ : am_T} {Q : am_Q} {x0 x1 x2 : Value} : AW d 262 85 [x0, x1, x2] (st) σ ρ g τ Q = AW d 262 86 [x0, x1, x2] (.int 0 :: st) σ ρ g τ Q := aw_lc m262 d262_85 rfl rfl rfl
theorem d262_86 : decode cX12_tells 86 = .ok (.ireturn, 1) := by decide +kernel
theorem s262_86 {d : Nat} {σ : am_I} {ρ : am_R} {g : am_J} {τ : am_T} {Q : am_Q} {x0 x1 x2 : Value} {v : Int32} : AW d 262 86 [x0, x1, x2] ([.int v]) σ ρ g τ Q = Q (some (.int v)) σ ρ g τ := aw_ri m262 d262_86 rfl
theorem d262_87 : decode cX12_tells 87 = .ok (.iload_n 2, 1) := by decide +kernel
theorem s262_87 {d : Nat} {st : List Value} {σ : am_I} {ρ : am_R} {g : am_J} {τ : am_T} {Q : am_Q} {x0 x1 : Value} {v : Int32} : AW d 262 87 [x0, x1, .int v] (st) σ ρ g τ Q = AW d 262 88 [x0, x1, .int v] (.int v :: st) σ ρ g τ Q := aw_lc m262 d262_87 rfl rfl rfl
theorem d262_88 : decode cX12_tells 88 = .ok (.aload_n 0, 1) := by decide +kernel
theorem s262_88 {d : Nat} {st : List Value} {σ : am_I} {ρ : am_R} {g : am_J} {τ : am_T} {Q : am_Q} {x1 x2 : Value} {v : Nat} : AW d 262 88 [.ref v, x1, x2] (st) σ ρ g τ Q = AW d 262 89 [.ref v, x1, x2] (.ref v :: st) σ ρ g τ Q := aw_lc m262 d262_88 rfl rfl rfl
theorem d262_89 : decode cX12_tells 89 = .ok (.getfield 465, 3) := by decide +kernel
theorem s262_89 {d : Nat} {st : List Value} {σ : am_I} {ρ : am_R} {g : am_J} {τ : am_T} {Q : am_Q} {x0 x1 x2 : Value} {a : Nat} (ht : τ.1 a = 12) : AW d 262 89 [x0, x1, x2] (.ref a :: st) σ ρ g τ Q = AW d 262 92 [x0, x1, x2] (.int (σ a 72) :: st) σ ρ g τ Q := aw_gi m262 d262_89 rfl rfl rfl ht
theorem d262_92 : decode cX12_tells 92 = .ok (.aload_n 0, 1) := by decide +kernel
theorem s262_92 {d : Nat} {st : List Value} {σ : am_I} {ρ : am_R} {g : am_J} {τ : am_T} {Q : am_Q} {x1 x2 : Value} {v : Nat} : AW d 262 92 [.ref v, x1, x2] (st) σ ρ g τ Q = AW d 262 93 [.ref v, x1, x2] (.ref v :: st) σ ρ g τ Q := aw_lc m262 d262_92 rfl rfl rfl
theorem d262_93 : decode cX12_tells 93 = .ok (.getfield 471, 3) := by decide +kernel
theorem s262_93 {d : Nat} {st : List Value} {σ : am_I} {ρ : am_R} {g : am_J} {τ : am_T} {Q : am_Q} {x0 x1 x2 : Value} {a : Nat} (ht : τ.1 a = 12) : AW d 262 93 [x0, x1, x2] (.ref a :: st) σ ρ g τ Q = AW d 262 96 [x0, x1, x2] (.int (σ a 71) :: st) σ ρ g τ Q := aw_gi m262 d262_93 rfl rfl rfl ht
theorem d262_96 : decode cX12_tells 96 = .ok (.isub, 1) := by decide +kernel
theorem s262_96 {d : Nat} {st : List Value} {σ : am_I} {ρ : am_R} {g : am_J} {τ : am_T} {Q : am_Q} {x0 x1 x2 : Value} {v w : Int32} : AW d 262 96 [x0, x1, x2] (.int w :: .int v :: st) σ ρ g τ Q = AW d 262 97 [x0, x1, x2] (.int (v - w) :: st) σ ρ g τ Q := aw_lc m262 d262_96 rfl rfl rfl
theorem d262_97 : decode cX12_tells 97 = .ok (.idiv, 1) := by decide +kernel
theorem s262_97 {d : Nat} {st : List Value} {σ : am_I} {ρ : am_R} {g : am_J} {τ : am_T} {Q : am_Q} {x0 x1 x2 : Value} {v w : Int32} (h0 : ¬ w = 0) : AW d 262 97 [x0, x1, x2] (.int w :: .int v :: st) σ ρ g τ Q = AW d 262 98 [x0, x1, x2] (.int (v / w) :: st) σ ρ g τ Q := aw_div m262 d262_97 h0 rfl
theorem d262_98 : decode cX12_tells 98 = .ok (.ireturn, 1) := by decide +kernel
theorem s262_98 {d : Nat} {σ : am_I} {ρ : am_R} {g : am_J} {τ : am_T} {Q : am_Q} {x0 x1 x2 : Value} {v : Int32} : AW d 262 98 [x0, x1, x2] ([.int v]) σ ρ g τ Q = Q (some (.int v)) σ ρ g τ := aw_ri m262 d262_98 rfl
theorem d263_0 : decode cX12_deal 0 = .ok (.aload_n 0, 1) := by decide +kernel
theorem s263_0 {d : Nat} {st : List Value} {σ : am_I} {ρ : am_R} {g : am_J} {τ : am_T} {Q : am_Q} {x1 x2 x3 x4 : Value} {v : Nat} : AW d 263 0 [.ref v, x1, x2, x3, x4] (st) σ ρ g τ Q = AW d 263 1 [.ref v, x1, x2, x3, x4] (.ref v :: st) σ ρ g τ Q := aw_lc m263 d263_0 rfl rfl rfl
theorem d263_1 : decode cX12_deal 1 = .ok (.iconst 0, 1) := by decide +kernel
theorem s263_1 {d : Nat} {st : List Value} {σ : am_I} {ρ : am_R} {g : am_J} {τ : am_T} {Q : am_Q} {x0 x1 x2 x3 x4 : Value} : AW d 263 1 [x0, x1, x2, x3, x4] (st) σ ρ g τ Q = AW d 263 2 [x0, x1, x2, x3, x4] (.int 0 :: st) σ ρ g τ Q := aw_lc m263 d263_1 rfl rfl rfl
theorem d263_2 : decode cX12_deal 2 = .ok (.putfield 450, 3) := by decide +kernel
theorem s263_2 {d : Nat} {st : List Value} {σ : am_I} {ρ : am_R} {g : am_J} {τ : am_T} {Q : am_Q} {x0 x1 x2 x3 x4 : Value} {a : Nat} {v : Int32} (ht : τ.1 a = 12) : AW d 263 2 [x0, x1, x2, x3, x4] (.int v :: .ref a :: st) σ ρ g τ Q = AW d 263 5 [x0, x1, x2, x3, x4] (st) (am_u σ a 55 v) ρ g τ Q := aw_pi m263 d263_2 rfl rfl (Or.inl rfl) rfl ht
theorem d263_5 : decode cX12_deal 5 = .ok (.iload_n 1, 1) := by decide +kernel
theorem s263_5 {d : Nat} {st : List Value} {σ : am_I} {ρ : am_R} {g : am_J} {τ : am_T} {Q : am_Q} {x0 x2 x3 x4 : Value} {v : Int32} : AW d 263 5 [x0, .int v, x2, x3, x4] (st) σ ρ g τ Q = AW d 263 6 [x0, .int v, x2, x3, x4] (.int v :: st) σ ρ g τ Q := aw_lc m263 d263_5 rfl rfl rfl
theorem d263_6 : decode cX12_deal 6 = .ok (.iconst 0, 1) := by decide +kernel
theorem s263_6 {d : Nat} {st : List Value} {σ : am_I} {ρ : am_R} {g : am_J} {τ : am_T} {Q : am_Q} {x0 x1 x2 x3 x4 : Value} : AW d 263 6 [x0, x1, x2, x3, x4] (st) σ ρ g τ Q = AW d 263 7 [x0, x1, x2, x3, x4] (.int 0 :: st) σ ρ g τ Q := aw_lc m263 d263_6 rfl rfl rfl
theorem d263_7 : decode cX12_deal 7 = .ok (.iconst 3, 1) := by decide +kernel
theorem s263_7 {d : Nat} {st : List Value} {σ : am_I} {ρ : am_R} {g : am_J} {τ : am_T} {Q : am_Q} {x0 x1 x2 x3 x4 : Value} : AW d 263 7 [x0, x1, x2, x3, x4] (st) σ ρ g τ Q = AW d 263 8 [x0, x1, x2, x3, x4] (.int 3 :: st) σ ρ g τ Q := aw_lc m263 d263_7 rfl rfl rfl
theorem d263_8 : decode cX12_deal 8 = .ok (.invokestatic 194, 3) := by decide +kernel
theorem s263_8 {d : Nat} {st : List Value} {σ : am_I} {ρ : am_R} {g : am_J} {τ : am_T} {Q : am_Q} {x0 x1 x2 x3 x4 : Value} {p0 : Int32} {p1 : Int32} {p2 : Int32} (hs : st.length ≤ 4) : AW (d + 1) 263 8 [x0, x1, x2, x3, x4] (.int p2 :: .int p1 :: .int p0 :: st) σ ρ g τ Q = AW d 165 0 [.int p0, .int p1, .int p2] [] σ ρ g τ (fun r9 σ ρ g τ => AW (d + 1) 263 11 [x0, x1, x2, x3, x4] (r9.toList ++ st) σ ρ g τ Q) := aw_cs m263 d263_8 rfl (by simp only [List.length_cons]; omega) rfl rfl en165 ok165 rfl hs
theorem d263_11 : decode cX12_deal 11 = .ok (.ifCond .eq 12, 3) := by decide +kernel
theorem s263_11 {d : Nat} {st : List Value} {σ : am_I} {ρ : am_R} {g : am_J} {τ : am_T} {Q : am_Q} {x0 x1 x2 x3 x4 : Value} {v : Int32} : AW d 263 11 [x0, x1, x2, x3, x4] (.int v :: st) σ ρ g τ Q = if v = 0 then AW d 263 23 [x0, x1, x2, x3, x4] (st) σ ρ g τ Q else AW d 263 14 [x0, x1, x2, x3, x4] (st) σ ρ g τ Q := aw_br m263 d263_11 rfl rfl rfl
theorem d263_14 : decode cX12_deal 14 = .ok (.iload_n 2, 1) := by decide +kernel
theorem s263_14 {d : Nat} {st : List Value} {σ : am_I} {ρ : am_R} {g : am_J} {τ : am_T} {Q : am_Q} {x0 x1 x3 x4 : Value} {v : Int32} : AW d 263 14 [x0, x1, .int v, x3, x4] (st) σ ρ g τ Q = AW d 263 15 [x0, x1, .int v, x3, x4] (.int v :: st) σ ρ g τ Q := aw_lc m263 d263_14 rfl rfl rfl
theorem d263_15 : decode cX12_deal 15 = .ok (.iconst 0, 1) := by decide +kernel
theorem s263_15 {d : Nat} {st : List Value} {σ : am_I} {ρ : am_R} {g : am_J} {τ : am_T} {Q : am_Q} {x0 x1 x2 x3 x4 : Value} : AW d 263 15 [x0, x1, x2, x3, x4] (st) σ ρ g τ Q = AW d 263 16 [x0, x1, x2, x3, x4] (.int 0 :: st) σ ρ g τ Q := aw_lc m263 d263_15 rfl rfl rfl
theorem d263_16 : decode cX12_deal 16 = .ok (.iconst 3, 1) := by decide +kernel
theorem s263_16 {d : Nat} {st : List Value} {σ : am_I} {ρ : am_R} {g : am_J} {τ : am_T} {Q : am_Q} {x0 x1 x2 x3 x4 : Value} : AW d 263 16 [x0, x1, x2, x3, x4] (st) σ ρ g τ Q = AW d 263 17 [x0, x1, x2, x3, x4] (.int 3 :: st) σ ρ g τ Q := aw_lc m263 d263_16 rfl rfl rfl
theorem d263_17 : decode cX12_deal 17 = .ok (.invokestatic 194, 3) := by decide +kernel
theorem s263_17 {d : Nat} {st : List Value} {σ : am_I} {ρ : am_R} {g : am_J} {τ : am_T} {Q : am_Q} {x0 x1 x2 x3 x4 : Value} {p0 : Int32} {p1 : Int32} {p2 : Int32} (hs : st.length ≤ 4) : AW (d + 1) 263 17 [x0, x1, x2, x3, x4] (.int p2 :: .int p1 :: .int p0 :: st) σ ρ g τ Q = AW d 165 0 [.int p0, .int p1, .int p2] [] σ ρ g τ (fun r9 σ ρ g τ => AW (d + 1) 263 20 [x0, x1, x2, x3, x4] (r9.toList ++ st) σ ρ g τ Q) := aw_cs m263 d263_17 rfl (by simp only [List.length_cons]; omega) rfl rfl en165 ok165 rfl hs
theorem d263_20 : decode cX12_deal 20 = .ok (.ifCond .ne 5, 3) := by decide +kernel
theorem s263_20 {d : Nat} {st : List Value} {σ : am_I} {ρ : am_R} {g : am_J} {τ : am_T} {Q : am_Q} {x0 x1 x2 x3 x4 : Value} {v : Int32} : AW d 263 20 [x0, x1, x2, x3, x4] (.int v :: st) σ ρ g τ Q = if ¬ v = 0 then AW d 263 25 [x0, x1, x2, x3, x4] (st) σ ρ g τ Q else AW d 263 23 [x0, x1, x2, x3, x4] (st) σ ρ g τ Q := aw_br m263 d263_20 rfl rfl rfl
theorem d263_23 : decode cX12_deal 23 = .ok (.iconst 0, 1) := by decide +kernel
theorem s263_23 {d : Nat} {st : List Value} {σ : am_I} {ρ : am_R} {g : am_J} {τ : am_T} {Q : am_Q} {x0 x1 x2 x3 x4 : Value} : AW d 263 23 [x0, x1, x2, x3, x4] (st) σ ρ g τ Q = AW d 263 24 [x0, x1, x2, x3, x4] (.int 0 :: st) σ ρ g τ Q := aw_lc m263 d263_23 rfl rfl rfl
theorem d263_24 : decode cX12_deal 24 = .ok (.ireturn, 1) := by decide +kernel
theorem s263_24 {d : Nat} {σ : am_I} {ρ : am_R} {g : am_J} {τ : am_T} {Q : am_Q} {x0 x1 x2 x3 x4 : Value} {v : Int32} : AW d 263 24 [x0, x1, x2, x3, x4] ([.int v]) σ ρ g τ Q = Q (some (.int v)) σ ρ g τ := aw_ri m263 d263_24 rfl
theorem d263_25 : decode cX12_deal 25 = .ok (.aload_n 0, 1) := by decide +kernel
theorem s263_25 {d : Nat} {st : List Value} {σ : am_I} {ρ : am_R} {g : am_J} {τ : am_T} {Q : am_Q} {x1 x2 x3 x4 : Value} {v : Nat} : AW d 263 25 [.ref v, x1, x2, x3, x4] (st) σ ρ g τ Q = AW d 263 26 [.ref v, x1, x2, x3, x4] (.ref v :: st) σ ρ g τ Q := aw_lc m263 d263_25 rfl rfl rfl
theorem d263_26 : decode cX12_deal 26 = .ok (.aload_n 0, 1) := by decide +kernel
theorem s263_26 {d : Nat} {st : List Value} {σ : am_I} {ρ : am_R} {g : am_J} {τ : am_T} {Q : am_Q} {x1 x2 x3 x4 : Value} {v : Nat} : AW d 263 26 [.ref v, x1, x2, x3, x4] (st) σ ρ g τ Q = AW d 263 27 [.ref v, x1, x2, x3, x4] (.ref v :: st) σ ρ g τ Q := aw_lc m263 d263_26 rfl rfl rfl
theorem d263_27 : decode cX12_deal 27 = .ok (.iload_n 1, 1) := by decide +kernel
theorem s263_27 {d : Nat} {st : List Value} {σ : am_I} {ρ : am_R} {g : am_J} {τ : am_T} {Q : am_Q} {x0 x2 x3 x4 : Value} {v : Int32} : AW d 263 27 [x0, .int v, x2, x3, x4] (st) σ ρ g τ Q = AW d 263 28 [x0, .int v, x2, x3, x4] (.int v :: st) σ ρ g τ Q := aw_lc m263 d263_27 rfl rfl rfl
theorem d263_28 : decode cX12_deal 28 = .ok (.invokevirtual 444, 3) := by decide +kernel
theorem s263_28 {d : Nat} {st : List Value} {σ : am_I} {ρ : am_R} {g : am_J} {τ : am_T} {Q : am_Q} {x0 x1 x2 x3 x4 : Value} {p0 : Nat} {p1 : Int32} (ht : τ.1 p0 = 12) (hs : st.length ≤ 4) : AW (d + 1) 263 28 [x0, x1, x2, x3, x4] (.int p1 :: .ref p0 :: st) σ ρ g τ Q = AW d 254 0 [.ref p0, .int p1, am_jk] [] σ ρ g τ (fun r9 σ ρ g τ => AW (d + 1) 263 31 [x0, x1, x2, x3, x4] (r9.toList ++ st) σ ρ g τ Q) := aw_cv m263 d263_28 rfl m254 rfl rfl (by decide) en254 ok254 rfl ht hs
theorem d263_31 : decode cX12_deal 31 = .ok (.putfield 474, 3) := by decide +kernel
theorem s263_31 {d : Nat} {st : List Value} {σ : am_I} {ρ : am_R} {g : am_J} {τ : am_T} {Q : am_Q} {x0 x1 x2 x3 x4 : Value} {a : Nat} {v : Int32} (ht : τ.1 a = 12) : AW d 263 31 [x0, x1, x2, x3, x4] (.int v :: .ref a :: st) σ ρ g τ Q = AW d 263 34 [x0, x1, x2, x3, x4] (st) (am_u σ a 70 v) ρ g τ Q := aw_pi m263 d263_31 rfl rfl (Or.inl rfl) rfl ht
theorem d263_34 : decode cX12_deal 34 = .ok (.aload_n 0, 1) := by decide +kernel
theorem s263_34 {d : Nat} {st : List Value} {σ : am_I} {ρ : am_R} {g : am_J} {τ : am_T} {Q : am_Q} {x1 x2 x3 x4 : Value} {v : Nat} : AW d 263 34 [.ref v, x1, x2, x3, x4] (st) σ ρ g τ Q = AW d 263 35 [.ref v, x1, x2, x3, x4] (.ref v :: st) σ ρ g τ Q := aw_lc m263 d263_34 rfl rfl rfl
theorem d263_35 : decode cX12_deal 35 = .ok (.getfield 474, 3) := by decide +kernel
theorem s263_35 {d : Nat} {st : List Value} {σ : am_I} {ρ : am_R} {g : am_J} {τ : am_T} {Q : am_Q} {x0 x1 x2 x3 x4 : Value} {a : Nat} (ht : τ.1 a = 12) : AW d 263 35 [x0, x1, x2, x3, x4] (.ref a :: st) σ ρ g τ Q = AW d 263 38 [x0, x1, x2, x3, x4] (.int (σ a 70) :: st) σ ρ g τ Q := aw_gi m263 d263_35 rfl rfl rfl ht
theorem d263_38 : decode cX12_deal 38 = .ok (.ifCond .ge 5, 3) := by decide +kernel
theorem s263_38 {d : Nat} {st : List Value} {σ : am_I} {ρ : am_R} {g : am_J} {τ : am_T} {Q : am_Q} {x0 x1 x2 x3 x4 : Value} {v : Int32} : AW d 263 38 [x0, x1, x2, x3, x4] (.int v :: st) σ ρ g τ Q = if 0 ≤ v then AW d 263 43 [x0, x1, x2, x3, x4] (st) σ ρ g τ Q else AW d 263 41 [x0, x1, x2, x3, x4] (st) σ ρ g τ Q := aw_br m263 d263_38 rfl rfl rfl
theorem d263_41 : decode cX12_deal 41 = .ok (.iconst 0, 1) := by decide +kernel
theorem s263_41 {d : Nat} {st : List Value} {σ : am_I} {ρ : am_R} {g : am_J} {τ : am_T} {Q : am_Q} {x0 x1 x2 x3 x4 : Value} : AW d 263 41 [x0, x1, x2, x3, x4] (st) σ ρ g τ Q = AW d 263 42 [x0, x1, x2, x3, x4] (.int 0 :: st) σ ρ g τ Q := aw_lc m263 d263_41 rfl rfl rfl
theorem d263_42 : decode cX12_deal 42 = .ok (.ireturn, 1) := by decide +kernel
theorem s263_42 {d : Nat} {σ : am_I} {ρ : am_R} {g : am_J} {τ : am_T} {Q : am_Q} {x0 x1 x2 x3 x4 : Value} {v : Int32} : AW d 263 42 [x0, x1, x2, x3, x4] ([.int v]) σ ρ g τ Q = Q (some (.int v)) σ ρ g τ := aw_ri m263 d263_42 rfl
theorem d263_43 : decode cX12_deal 43 = .ok (.aload_n 0, 1) := by decide +kernel
theorem s263_43 {d : Nat} {st : List Value} {σ : am_I} {ρ : am_R} {g : am_J} {τ : am_T} {Q : am_Q} {x1 x2 x3 x4 : Value} {v : Nat} : AW d 263 43 [.ref v, x1, x2, x3, x4] (st) σ ρ g τ Q = AW d 263 44 [.ref v, x1, x2, x3, x4] (.ref v :: st) σ ρ g τ Q := aw_lc m263 d263_43 rfl rfl rfl
theorem d263_44 : decode cX12_deal 44 = .ok (.aload_n 0, 1) := by decide +kernel
theorem s263_44 {d : Nat} {st : List Value} {σ : am_I} {ρ : am_R} {g : am_J} {τ : am_T} {Q : am_Q} {x1 x2 x3 x4 : Value} {v : Nat} : AW d 263 44 [.ref v, x1, x2, x3, x4] (st) σ ρ g τ Q = AW d 263 45 [.ref v, x1, x2, x3, x4] (.ref v :: st) σ ρ g τ Q := aw_lc m263 d263_44 rfl rfl rfl
theorem d263_45 : decode cX12_deal 45 = .ok (.getfield 160, 3) := by decide +kernel
theorem s263_45 {d : Nat} {st : List Value} {σ : am_I} {ρ : am_R} {g : am_J} {τ : am_T} {Q : am_Q} {x0 x1 x2 x3 x4 : Value} {a : Nat} (ht : τ.1 a = 12) : AW d 263 45 [x0, x1, x2, x3, x4] (.ref a :: st) σ ρ g τ Q = AW d 263 48 [x0, x1, x2, x3, x4] (va_rf (ρ a 52) :: st) σ ρ g τ Q := aw_gr m263 d263_45 rfl rfl rfl ht
theorem d263_48 : decode cX12_deal 48 = .ok (.iload_n 1, 1) := by decide +kernel
theorem s263_48 {d : Nat} {st : List Value} {σ : am_I} {ρ : am_R} {g : am_J} {τ : am_T} {Q : am_Q} {x0 x2 x3 x4 : Value} {v : Int32} : AW d 263 48 [x0, .int v, x2, x3, x4] (st) σ ρ g τ Q = AW d 263 49 [x0, .int v, x2, x3, x4] (.int v :: st) σ ρ g τ Q := aw_lc m263 d263_48 rfl rfl rfl
theorem d263_49 : decode cX12_deal 49 = .ok (.iaload, 1) := by decide +kernel
theorem s263_49 {d : Nat} {st : List Value} {σ : am_I} {ρ : am_R} {g : am_J} {τ : am_T} {Q : am_Q} {x0 x1 x2 x3 x4 : Value} {a : Nat} {j : Int32} (ht : τ.1 a = 15) (hj : am_inb j (τ.2.1 a) = true) : AW d 263 49 [x0, x1, x2, x3, x4] (.int j :: .ref a :: st) σ ρ g τ Q = AW d 263 50 [x0, x1, x2, x3, x4] (.int (σ a j.toNatClampNeg) :: st) σ ρ g τ Q := aw_ial m263 d263_49 rfl ht hj
theorem d263_50 : decode cX12_deal 50 = .ok (.putfield 471, 3) := by decide +kernel
theorem s263_50 {d : Nat} {st : List Value} {σ : am_I} {ρ : am_R} {g : am_J} {τ : am_T} {Q : am_Q} {x0 x1 x2 x3 x4 : Value} {a : Nat} {v : Int32} (ht : τ.1 a = 12) : AW d 263 50 [x0, x1, x2, x3, x4] (.int v :: .ref a :: st) σ ρ g τ Q = AW d 263 53 [x0, x1, x2, x3, x4] (st) (am_u σ a 71 v) ρ g τ Q := aw_pi m263 d263_50 rfl rfl (Or.inl rfl) rfl ht
theorem d263_53 : decode cX12_deal 53 = .ok (.aload_n 0, 1) := by decide +kernel
theorem s263_53 {d : Nat} {st : List Value} {σ : am_I} {ρ : am_R} {g : am_J} {τ : am_T} {Q : am_Q} {x1 x2 x3 x4 : Value} {v : Nat} : AW d 263 53 [.ref v, x1, x2, x3, x4] (st) σ ρ g τ Q = AW d 263 54 [.ref v, x1, x2, x3, x4] (.ref v :: st) σ ρ g τ Q := aw_lc m263 d263_53 rfl rfl rfl
theorem d263_54 : decode cX12_deal 54 = .ok (.aload_n 0, 1) := by decide +kernel
theorem s263_54 {d : Nat} {st : List Value} {σ : am_I} {ρ : am_R} {g : am_J} {τ : am_T} {Q : am_Q} {x1 x2 x3 x4 : Value} {v : Nat} : AW d 263 54 [.ref v, x1, x2, x3, x4] (st) σ ρ g τ Q = AW d 263 55 [.ref v, x1, x2, x3, x4] (.ref v :: st) σ ρ g τ Q := aw_lc m263 d263_54 rfl rfl rfl
theorem d263_55 : decode cX12_deal 55 = .ok (.getfield 474, 3) := by decide +kernel
theorem s263_55 {d : Nat} {st : List Value} {σ : am_I} {ρ : am_R} {g : am_J} {τ : am_T} {Q : am_Q} {x0 x1 x2 x3 x4 : Value} {a : Nat} (ht : τ.1 a = 12) : AW d 263 55 [x0, x1, x2, x3, x4] (.ref a :: st) σ ρ g τ Q = AW d 263 58 [x0, x1, x2, x3, x4] (.int (σ a 70) :: st) σ ρ g τ Q := aw_gi m263 d263_55 rfl rfl rfl ht
theorem d263_58 : decode cX12_deal 58 = .ok (.bipush 6, 2) := by decide +kernel
theorem s263_58 {d : Nat} {st : List Value} {σ : am_I} {ρ : am_R} {g : am_J} {τ : am_T} {Q : am_Q} {x0 x1 x2 x3 x4 : Value} : AW d 263 58 [x0, x1, x2, x3, x4] (st) σ ρ g τ Q = AW d 263 60 [x0, x1, x2, x3, x4] (.int 6 :: st) σ ρ g τ Q := aw_lc m263 d263_58 rfl rfl rfl
theorem d263_60 : decode cX12_deal 60 = .ok (.if_icmp .ne 15, 3) := by decide +kernel
theorem s263_60 {d : Nat} {st : List Value} {σ : am_I} {ρ : am_R} {g : am_J} {τ : am_T} {Q : am_Q} {x0 x1 x2 x3 x4 : Value} {v w : Int32} : AW d 263 60 [x0, x1, x2, x3, x4] (.int w :: .int v :: st) σ ρ g τ Q = if ¬ v = w then AW d 263 75 [x0, x1, x2, x3, x4] (st) σ ρ g τ Q else AW d 263 63 [x0, x1, x2, x3, x4] (st) σ ρ g τ Q := aw_br m263 d263_60 rfl rfl rfl
theorem d263_63 : decode cX12_deal 63 = .ok (.aload_n 0, 1) := by decide +kernel
theorem s263_63 {d : Nat} {st : List Value} {σ : am_I} {ρ : am_R} {g : am_J} {τ : am_T} {Q : am_Q} {x1 x2 x3 x4 : Value} {v : Nat} : AW d 263 63 [.ref v, x1, x2, x3, x4] (st) σ ρ g τ Q = AW d 263 64 [.ref v, x1, x2, x3, x4] (.ref v :: st) σ ρ g τ Q := aw_lc m263 d263_63 rfl rfl rfl
theorem d263_64 : decode cX12_deal 64 = .ok (.getfield 106, 3) := by decide +kernel
theorem s263_64 {d : Nat} {st : List Value} {σ : am_I} {ρ : am_R} {g : am_J} {τ : am_T} {Q : am_Q} {x0 x1 x2 x3 x4 : Value} {a : Nat} (ht : τ.1 a = 12) : AW d 263 64 [x0, x1, x2, x3, x4] (.ref a :: st) σ ρ g τ Q = AW d 263 67 [x0, x1, x2, x3, x4] (va_rf (ρ a 32) :: st) σ ρ g τ Q := aw_gr m263 d263_64 rfl rfl rfl ht
theorem d263_67 : decode cX12_deal 67 = .ok (.aload_n 0, 1) := by decide +kernel
theorem s263_67 {d : Nat} {st : List Value} {σ : am_I} {ρ : am_R} {g : am_J} {τ : am_T} {Q : am_Q} {x1 x2 x3 x4 : Value} {v : Nat} : AW d 263 67 [.ref v, x1, x2, x3, x4] (st) σ ρ g τ Q = AW d 263 68 [.ref v, x1, x2, x3, x4] (.ref v :: st) σ ρ g τ Q := aw_lc m263 d263_67 rfl rfl rfl
theorem d263_68 : decode cX12_deal 68 = .ok (.getfield 471, 3) := by decide +kernel
theorem s263_68 {d : Nat} {st : List Value} {σ : am_I} {ρ : am_R} {g : am_J} {τ : am_T} {Q : am_Q} {x0 x1 x2 x3 x4 : Value} {a : Nat} (ht : τ.1 a = 12) : AW d 263 68 [x0, x1, x2, x3, x4] (.ref a :: st) σ ρ g τ Q = AW d 263 71 [x0, x1, x2, x3, x4] (.int (σ a 71) :: st) σ ρ g τ Q := aw_gi m263 d263_68 rfl rfl rfl ht
theorem d263_71 : decode cX12_deal 71 = .ok (.iaload, 1) := by decide +kernel
theorem s263_71 {d : Nat} {st : List Value} {σ : am_I} {ρ : am_R} {g : am_J} {τ : am_T} {Q : am_Q} {x0 x1 x2 x3 x4 : Value} {a : Nat} {j : Int32} (ht : τ.1 a = 15) (hj : am_inb j (τ.2.1 a) = true) : AW d 263 71 [x0, x1, x2, x3, x4] (.int j :: .ref a :: st) σ ρ g τ Q = AW d 263 72 [x0, x1, x2, x3, x4] (.int (σ a j.toNatClampNeg) :: st) σ ρ g τ Q := aw_ial m263 d263_71 rfl ht hj
theorem d263_72 : decode cX12_deal 72 = .ok (.goto 12, 3) := by decide +kernel
theorem s263_72 {d : Nat} {st : List Value} {σ : am_I} {ρ : am_R} {g : am_J} {τ : am_T} {Q : am_Q} {x0 x1 x2 x3 x4 : Value} : AW d 263 72 [x0, x1, x2, x3, x4] (st) σ ρ g τ Q = AW d 263 84 [x0, x1, x2, x3, x4] (st) σ ρ g τ Q := aw_lc m263 d263_72 rfl rfl rfl
theorem d263_75 : decode cX12_deal 75 = .ok (.aload_n 0, 1) := by decide +kernel
theorem s263_75 {d : Nat} {st : List Value} {σ : am_I} {ρ : am_R} {g : am_J} {τ : am_T} {Q : am_Q} {x1 x2 x3 x4 : Value} {v : Nat} : AW d 263 75 [.ref v, x1, x2, x3, x4] (st) σ ρ g τ Q = AW d 263 76 [.ref v, x1, x2, x3, x4] (.ref v :: st) σ ρ g τ Q := aw_lc m263 d263_75 rfl rfl rfl
theorem d263_76 : decode cX12_deal 76 = .ok (.getfield 40, 3) := by decide +kernel
theorem s263_76 {d : Nat} {st : List Value} {σ : am_I} {ρ : am_R} {g : am_J} {τ : am_T} {Q : am_Q} {x0 x1 x2 x3 x4 : Value} {a : Nat} (ht : τ.1 a = 12) : AW d 263 76 [x0, x1, x2, x3, x4] (.ref a :: st) σ ρ g τ Q = AW d 263 79 [x0, x1, x2, x3, x4] (va_rf (ρ a 10) :: st) σ ρ g τ Q := aw_gr m263 d263_76 rfl rfl rfl ht
theorem d263_79 : decode cX12_deal 79 = .ok (.aload_n 0, 1) := by decide +kernel
theorem s263_79 {d : Nat} {st : List Value} {σ : am_I} {ρ : am_R} {g : am_J} {τ : am_T} {Q : am_Q} {x1 x2 x3 x4 : Value} {v : Nat} : AW d 263 79 [.ref v, x1, x2, x3, x4] (st) σ ρ g τ Q = AW d 263 80 [.ref v, x1, x2, x3, x4] (.ref v :: st) σ ρ g τ Q := aw_lc m263 d263_79 rfl rfl rfl
theorem d263_80 : decode cX12_deal 80 = .ok (.getfield 471, 3) := by decide +kernel
theorem s263_80 {d : Nat} {st : List Value} {σ : am_I} {ρ : am_R} {g : am_J} {τ : am_T} {Q : am_Q} {x0 x1 x2 x3 x4 : Value} {a : Nat} (ht : τ.1 a = 12) : AW d 263 80 [x0, x1, x2, x3, x4] (.ref a :: st) σ ρ g τ Q = AW d 263 83 [x0, x1, x2, x3, x4] (.int (σ a 71) :: st) σ ρ g τ Q := aw_gi m263 d263_80 rfl rfl rfl ht
theorem d263_83 : decode cX12_deal 83 = .ok (.iaload, 1) := by decide +kernel
theorem s263_83 {d : Nat} {st : List Value} {σ : am_I} {ρ : am_R} {g : am_J} {τ : am_T} {Q : am_Q} {x0 x1 x2 x3 x4 : Value} {a : Nat} {j : Int32} (ht : τ.1 a = 15) (hj : am_inb j (τ.2.1 a) = true) : AW d 263 83 [x0, x1, x2, x3, x4] (.int j :: .ref a :: st) σ ρ g τ Q = AW d 263 84 [x0, x1, x2, x3, x4] (.int (σ a j.toNatClampNeg) :: st) σ ρ g τ Q := aw_ial m263 d263_83 rfl ht hj
theorem d263_84 : decode cX12_deal 84 = .ok (.putfield 465, 3) := by decide +kernel
theorem s263_84 {d : Nat} {st : List Value} {σ : am_I} {ρ : am_R} {g : am_J} {τ : am_T} {Q : am_Q} {x0 x1 x2 x3 x4 : Value} {a : Nat} {v : Int32} (ht : τ.1 a = 12) : AW d 263 84 [x0, x1, x2, x3, x4] (.int v :: .ref a :: st) σ ρ g τ Q = AW d 263 87 [x0, x1, x2, x3, x4] (st) (am_u σ a 72 v) ρ g τ Q := aw_pi m263 d263_84 rfl rfl (Or.inl rfl) rfl ht
theorem d263_87 : decode cX12_deal 87 = .ok (.aload_n 0, 1) := by decide +kernel
theorem s263_87 {d : Nat} {st : List Value} {σ : am_I} {ρ : am_R} {g : am_J} {τ : am_T} {Q : am_Q} {x1 x2 x3 x4 : Value} {v : Nat} : AW d 263 87 [.ref v, x1, x2, x3, x4] (st) σ ρ g τ Q = AW d 263 88 [.ref v, x1, x2, x3, x4] (.ref v :: st) σ ρ g τ Q := aw_lc m263 d263_87 rfl rfl rfl
theorem d263_88 : decode cX12_deal 88 = .ok (.aload_n 0, 1) := by decide +kernel
theorem s263_88 {d : Nat} {st : List Value} {σ : am_I} {ρ : am_R} {g : am_J} {τ : am_T} {Q : am_Q} {x1 x2 x3 x4 : Value} {v : Nat} : AW d 263 88 [.ref v, x1, x2, x3, x4] (st) σ ρ g τ Q = AW d 263 89 [.ref v, x1, x2, x3, x4] (.ref v :: st) σ ρ g τ Q := aw_lc m263 d263_88 rfl rfl rfl
theorem d263_89 : decode cX12_deal 89 = .ok (.getfield 474, 3) := by decide +kernel
theorem s263_89 {d : Nat} {st : List Value} {σ : am_I} {ρ : am_R} {g : am_J} {τ : am_T} {Q : am_Q} {x0 x1 x2 x3 x4 : Value} {a : Nat} (ht : τ.1 a = 12) : AW d 263 89 [x0, x1, x2, x3, x4] (.ref a :: st) σ ρ g τ Q = AW d 263 92 [x0, x1, x2, x3, x4] (.int (σ a 70) :: st) σ ρ g τ Q := aw_gi m263 d263_89 rfl rfl rfl ht
theorem d263_92 : decode cX12_deal 92 = .ok (.bipush 6, 2) := by decide +kernel
theorem s263_92 {d : Nat} {st : List Value} {σ : am_I} {ρ : am_R} {g : am_J} {τ : am_T} {Q : am_Q} {x0 x1 x2 x3 x4 : Value} : AW d 263 92 [x0, x1, x2, x3, x4] (st) σ ρ g τ Q = AW d 263 94 [x0, x1, x2, x3, x4] (.int 6 :: st) σ ρ g τ Q := aw_lc m263 d263_92 rfl rfl rfl
theorem d263_94 : decode cX12_deal 94 = .ok (.if_icmp .ne 15, 3) := by decide +kernel
theorem s263_94 {d : Nat} {st : List Value} {σ : am_I} {ρ : am_R} {g : am_J} {τ : am_T} {Q : am_Q} {x0 x1 x2 x3 x4 : Value} {v w : Int32} : AW d 263 94 [x0, x1, x2, x3, x4] (.int w :: .int v :: st) σ ρ g τ Q = if ¬ v = w then AW d 263 109 [x0, x1, x2, x3, x4] (st) σ ρ g τ Q else AW d 263 97 [x0, x1, x2, x3, x4] (st) σ ρ g τ Q := aw_br m263 d263_94 rfl rfl rfl
theorem d263_97 : decode cX12_deal 97 = .ok (.aload_n 0, 1) := by decide +kernel
theorem s263_97 {d : Nat} {st : List Value} {σ : am_I} {ρ : am_R} {g : am_J} {τ : am_T} {Q : am_Q} {x1 x2 x3 x4 : Value} {v : Nat} : AW d 263 97 [.ref v, x1, x2, x3, x4] (st) σ ρ g τ Q = AW d 263 98 [.ref v, x1, x2, x3, x4] (.ref v :: st) σ ρ g τ Q := aw_lc m263 d263_97 rfl rfl rfl
theorem d263_98 : decode cX12_deal 98 = .ok (.getfield 103, 3) := by decide +kernel
theorem s263_98 {d : Nat} {st : List Value} {σ : am_I} {ρ : am_R} {g : am_J} {τ : am_T} {Q : am_Q} {x0 x1 x2 x3 x4 : Value} {a : Nat} (ht : τ.1 a = 12) : AW d 263 98 [x0, x1, x2, x3, x4] (.ref a :: st) σ ρ g τ Q = AW d 263 101 [x0, x1, x2, x3, x4] (va_rf (ρ a 31) :: st) σ ρ g τ Q := aw_gr m263 d263_98 rfl rfl rfl ht
theorem d263_101 : decode cX12_deal 101 = .ok (.aload_n 0, 1) := by decide +kernel
theorem s263_101 {d : Nat} {st : List Value} {σ : am_I} {ρ : am_R} {g : am_J} {τ : am_T} {Q : am_Q} {x1 x2 x3 x4 : Value} {v : Nat} : AW d 263 101 [.ref v, x1, x2, x3, x4] (st) σ ρ g τ Q = AW d 263 102 [.ref v, x1, x2, x3, x4] (.ref v :: st) σ ρ g τ Q := aw_lc m263 d263_101 rfl rfl rfl
theorem d263_102 : decode cX12_deal 102 = .ok (.getfield 471, 3) := by decide +kernel
theorem s263_102 {d : Nat} {st : List Value} {σ : am_I} {ρ : am_R} {g : am_J} {τ : am_T} {Q : am_Q} {x0 x1 x2 x3 x4 : Value} {a : Nat} (ht : τ.1 a = 12) : AW d 263 102 [x0, x1, x2, x3, x4] (.ref a :: st) σ ρ g τ Q = AW d 263 105 [x0, x1, x2, x3, x4] (.int (σ a 71) :: st) σ ρ g τ Q := aw_gi m263 d263_102 rfl rfl rfl ht
theorem d263_105 : decode cX12_deal 105 = .ok (.iaload, 1) := by decide +kernel
theorem s263_105 {d : Nat} {st : List Value} {σ : am_I} {ρ : am_R} {g : am_J} {τ : am_T} {Q : am_Q} {x0 x1 x2 x3 x4 : Value} {a : Nat} {j : Int32} (ht : τ.1 a = 15) (hj : am_inb j (τ.2.1 a) = true) : AW d 263 105 [x0, x1, x2, x3, x4] (.int j :: .ref a :: st) σ ρ g τ Q = AW d 263 106 [x0, x1, x2, x3, x4] (.int (σ a j.toNatClampNeg) :: st) σ ρ g τ Q := aw_ial m263 d263_105 rfl ht hj
theorem d263_106 : decode cX12_deal 106 = .ok (.goto 12, 3) := by decide +kernel
theorem s263_106 {d : Nat} {st : List Value} {σ : am_I} {ρ : am_R} {g : am_J} {τ : am_T} {Q : am_Q} {x0 x1 x2 x3 x4 : Value} : AW d 263 106 [x0, x1, x2, x3, x4] (st) σ ρ g τ Q = AW d 263 118 [x0, x1, x2, x3, x4] (st) σ ρ g τ Q := aw_lc m263 d263_106 rfl rfl rfl
theorem d263_109 : decode cX12_deal 109 = .ok (.aload_n 0, 1) := by decide +kernel
theorem s263_109 {d : Nat} {st : List Value} {σ : am_I} {ρ : am_R} {g : am_J} {τ : am_T} {Q : am_Q} {x1 x2 x3 x4 : Value} {v : Nat} : AW d 263 109 [.ref v, x1, x2, x3, x4] (st) σ ρ g τ Q = AW d 263 110 [.ref v, x1, x2, x3, x4] (.ref v :: st) σ ρ g τ Q := aw_lc m263 d263_109 rfl rfl rfl
theorem d263_110 : decode cX12_deal 110 = .ok (.getfield 46, 3) := by decide +kernel
theorem s263_110 {d : Nat} {st : List Value} {σ : am_I} {ρ : am_R} {g : am_J} {τ : am_T} {Q : am_Q} {x0 x1 x2 x3 x4 : Value} {a : Nat} (ht : τ.1 a = 12) : AW d 263 110 [x0, x1, x2, x3, x4] (.ref a :: st) σ ρ g τ Q = AW d 263 113 [x0, x1, x2, x3, x4] (va_rf (ρ a 12) :: st) σ ρ g τ Q := aw_gr m263 d263_110 rfl rfl rfl ht
theorem d263_113 : decode cX12_deal 113 = .ok (.aload_n 0, 1) := by decide +kernel
theorem s263_113 {d : Nat} {st : List Value} {σ : am_I} {ρ : am_R} {g : am_J} {τ : am_T} {Q : am_Q} {x1 x2 x3 x4 : Value} {v : Nat} : AW d 263 113 [.ref v, x1, x2, x3, x4] (st) σ ρ g τ Q = AW d 263 114 [.ref v, x1, x2, x3, x4] (.ref v :: st) σ ρ g τ Q := aw_lc m263 d263_113 rfl rfl rfl
theorem d263_114 : decode cX12_deal 114 = .ok (.getfield 471, 3) := by decide +kernel
theorem s263_114 {d : Nat} {st : List Value} {σ : am_I} {ρ : am_R} {g : am_J} {τ : am_T} {Q : am_Q} {x0 x1 x2 x3 x4 : Value} {a : Nat} (ht : τ.1 a = 12) : AW d 263 114 [x0, x1, x2, x3, x4] (.ref a :: st) σ ρ g τ Q = AW d 263 117 [x0, x1, x2, x3, x4] (.int (σ a 71) :: st) σ ρ g τ Q := aw_gi m263 d263_114 rfl rfl rfl ht
theorem d263_117 : decode cX12_deal 117 = .ok (.iaload, 1) := by decide +kernel
theorem s263_117 {d : Nat} {st : List Value} {σ : am_I} {ρ : am_R} {g : am_J} {τ : am_T} {Q : am_Q} {x0 x1 x2 x3 x4 : Value} {a : Nat} {j : Int32} (ht : τ.1 a = 15) (hj : am_inb j (τ.2.1 a) = true) : AW d 263 117 [x0, x1, x2, x3, x4] (.int j :: .ref a :: st) σ ρ g τ Q = AW d 263 118 [x0, x1, x2, x3, x4] (.int (σ a j.toNatClampNeg) :: st) σ ρ g τ Q := aw_ial m263 d263_117 rfl ht hj
theorem d263_118 : decode cX12_deal 118 = .ok (.putfield 462, 3) := by decide +kernel
theorem s263_118 {d : Nat} {st : List Value} {σ : am_I} {ρ : am_R} {g : am_J} {τ : am_T} {Q : am_Q} {x0 x1 x2 x3 x4 : Value} {a : Nat} {v : Int32} (ht : τ.1 a = 12) : AW d 263 118 [x0, x1, x2, x3, x4] (.int v :: .ref a :: st) σ ρ g τ Q = AW d 263 121 [x0, x1, x2, x3, x4] (st) (am_u σ a 73 v) ρ g τ Q := aw_pi m263 d263_118 rfl rfl (Or.inl rfl) rfl ht
theorem d263_121 : decode cX12_deal 121 = .ok (.aload_n 0, 1) := by decide +kernel
theorem s263_121 {d : Nat} {st : List Value} {σ : am_I} {ρ : am_R} {g : am_J} {τ : am_T} {Q : am_Q} {x1 x2 x3 x4 : Value} {v : Nat} : AW d 263 121 [.ref v, x1, x2, x3, x4] (st) σ ρ g τ Q = AW d 263 122 [.ref v, x1, x2, x3, x4] (.ref v :: st) σ ρ g τ Q := aw_lc m263 d263_121 rfl rfl rfl
theorem d263_122 : decode cX12_deal 122 = .ok (.iconst 0, 1) := by decide +kernel
theorem s263_122 {d : Nat} {st : List Value} {σ : am_I} {ρ : am_R} {g : am_J} {τ : am_T} {Q : am_Q} {x0 x1 x2 x3 x4 : Value} : AW d 263 122 [x0, x1, x2, x3, x4] (st) σ ρ g τ Q = AW d 263 123 [x0, x1, x2, x3, x4] (.int 0 :: st) σ ρ g τ Q := aw_lc m263 d263_122 rfl rfl rfl
theorem d263_123 : decode cX12_deal 123 = .ok (.putfield 483, 3) := by decide +kernel
theorem s263_123 {d : Nat} {st : List Value} {σ : am_I} {ρ : am_R} {g : am_J} {τ : am_T} {Q : am_Q} {x0 x1 x2 x3 x4 : Value} {a : Nat} {v : Int32} (ht : τ.1 a = 12) (hv : am_b01 v = true) : AW d 263 123 [x0, x1, x2, x3, x4] (.int v :: .ref a :: st) σ ρ g τ Q = AW d 263 126 [x0, x1, x2, x3, x4] (st) (am_u σ a 74 v) ρ g τ Q := aw_pz m263 d263_123 rfl rfl (Or.inl rfl) rfl ht hv
theorem d263_126 : decode cX12_deal 126 = .ok (.iload_n 2, 1) := by decide +kernel
theorem s263_126 {d : Nat} {st : List Value} {σ : am_I} {ρ : am_R} {g : am_J} {τ : am_T} {Q : am_Q} {x0 x1 x3 x4 : Value} {v : Int32} : AW d 263 126 [x0, x1, .int v, x3, x4] (st) σ ρ g τ Q = AW d 263 127 [x0, x1, .int v, x3, x4] (.int v :: st) σ ρ g τ Q := aw_lc m263 d263_126 rfl rfl rfl
theorem d263_127 : decode cX12_deal 127 = .ok (.ifCond .ne 15, 3) := by decide +kernel
theorem s263_127 {d : Nat} {st : List Value} {σ : am_I} {ρ : am_R} {g : am_J} {τ : am_T} {Q : am_Q} {x0 x1 x2 x3 x4 : Value} {v : Int32} : AW d 263 127 [x0, x1, x2, x3, x4] (.int v :: st) σ ρ g τ Q = if ¬ v = 0 then AW d 263 142 [x0, x1, x2, x3, x4] (st) σ ρ g τ Q else AW d 263 130 [x0, x1, x2, x3, x4] (st) σ ρ g τ Q := aw_br m263 d263_127 rfl rfl rfl
theorem d263_130 : decode cX12_deal 130 = .ok (.aload_n 0, 1) := by decide +kernel
theorem s263_130 {d : Nat} {st : List Value} {σ : am_I} {ρ : am_R} {g : am_J} {τ : am_T} {Q : am_Q} {x1 x2 x3 x4 : Value} {v : Nat} : AW d 263 130 [.ref v, x1, x2, x3, x4] (st) σ ρ g τ Q = AW d 263 131 [.ref v, x1, x2, x3, x4] (.ref v :: st) σ ρ g τ Q := aw_lc m263 d263_130 rfl rfl rfl
theorem d263_131 : decode cX12_deal 131 = .ok (.aload_n 0, 1) := by decide +kernel
theorem s263_131 {d : Nat} {st : List Value} {σ : am_I} {ρ : am_R} {g : am_J} {τ : am_T} {Q : am_Q} {x1 x2 x3 x4 : Value} {v : Nat} : AW d 263 131 [.ref v, x1, x2, x3, x4] (st) σ ρ g τ Q = AW d 263 132 [.ref v, x1, x2, x3, x4] (.ref v :: st) σ ρ g τ Q := aw_lc m263 d263_131 rfl rfl rfl
theorem d263_132 : decode cX12_deal 132 = .ok (.getfield 474, 3) := by decide +kernel
theorem s263_132 {d : Nat} {st : List Value} {σ : am_I} {ρ : am_R} {g : am_J} {τ : am_T} {Q : am_Q} {x0 x1 x2 x3 x4 : Value} {a : Nat} (ht : τ.1 a = 12) : AW d 263 132 [x0, x1, x2, x3, x4] (.ref a :: st) σ ρ g τ Q = AW d 263 135 [x0, x1, x2, x3, x4] (.int (σ a 70) :: st) σ ρ g τ Q := aw_gi m263 d263_132 rfl rfl rfl ht
theorem d263_135 : decode cX12_deal 135 = .ok (.iload_n 3, 1) := by decide +kernel
theorem s263_135 {d : Nat} {st : List Value} {σ : am_I} {ρ : am_R} {g : am_J} {τ : am_T} {Q : am_Q} {x0 x1 x2 x4 : Value} {v : Int32} : AW d 263 135 [x0, x1, x2, .int v, x4] (st) σ ρ g τ Q = AW d 263 136 [x0, x1, x2, .int v, x4] (.int v :: st) σ ρ g τ Q := aw_lc m263 d263_135 rfl rfl rfl
theorem d263_136 : decode cX12_deal 136 = .ok (.invokevirtual 459, 3) := by decide +kernel
theorem s263_136 {d : Nat} {st : List Value} {σ : am_I} {ρ : am_R} {g : am_J} {τ : am_T} {Q : am_Q} {x0 x1 x2 x3 x4 : Value} {p0 : Nat} {p1 : Int32} {p2 : Int32} (ht : τ.1 p0 = 12) (hs : st.length ≤ 4) : AW (d + 1) 263 136 [x0, x1, x2, x3, x4] (.int p2 :: .int p1 :: .ref p0 :: st) σ ρ g τ Q = AW d 259 0 [.ref p0, .int p1, .int p2] [] σ ρ g τ (fun r9 σ ρ g τ => AW (d + 1) 263 139 [x0, x1, x2, x3, x4] (r9.toList ++ st) σ ρ g τ Q) := aw_cv m263 d263_136 rfl m259 rfl rfl (by decide) en259 ok259 rfl ht hs
theorem d263_139 : decode cX12_deal 139 = .ok (.goto 46, 3) := by decide +kernel
theorem s263_139 {d : Nat} {st : List Value} {σ : am_I} {ρ : am_R} {g : am_J} {τ : am_T} {Q : am_Q} {x0 x1 x2 x3 x4 : Value} : AW d 263 139 [x0, x1, x2, x3, x4] (st) σ ρ g τ Q = AW d 263 185 [x0, x1, x2, x3, x4] (st) σ ρ g τ Q := aw_lc m263 d263_139 rfl rfl rfl
theorem d263_142 : decode cX12_deal 142 = .ok (.iload_n 2, 1) := by decide +kernel
theorem s263_142 {d : Nat} {st : List Value} {σ : am_I} {ρ : am_R} {g : am_J} {τ : am_T} {Q : am_Q} {x0 x1 x3 x4 : Value} {v : Int32} : AW d 263 142 [x0, x1, .int v, x3, x4] (st) σ ρ g τ Q = AW d 263 143 [x0, x1, .int v, x3, x4] (.int v :: st) σ ρ g τ Q := aw_lc m263 d263_142 rfl rfl rfl
theorem d263_143 : decode cX12_deal 143 = .ok (.iconst 1, 1) := by decide +kernel
theorem s263_143 {d : Nat} {st : List Value} {σ : am_I} {ρ : am_R} {g : am_J} {τ : am_T} {Q : am_Q} {x0 x1 x2 x3 x4 : Value} : AW d 263 143 [x0, x1, x2, x3, x4] (st) σ ρ g τ Q = AW d 263 144 [x0, x1, x2, x3, x4] (.int 1 :: st) σ ρ g τ Q := aw_lc m263 d263_143 rfl rfl rfl
theorem d263_144 : decode cX12_deal 144 = .ok (.if_icmp .ne 15, 3) := by decide +kernel
theorem s263_144 {d : Nat} {st : List Value} {σ : am_I} {ρ : am_R} {g : am_J} {τ : am_T} {Q : am_Q} {x0 x1 x2 x3 x4 : Value} {v w : Int32} : AW d 263 144 [x0, x1, x2, x3, x4] (.int w :: .int v :: st) σ ρ g τ Q = if ¬ v = w then AW d 263 159 [x0, x1, x2, x3, x4] (st) σ ρ g τ Q else AW d 263 147 [x0, x1, x2, x3, x4] (st) σ ρ g τ Q := aw_br m263 d263_144 rfl rfl rfl
theorem d263_147 : decode cX12_deal 147 = .ok (.aload_n 0, 1) := by decide +kernel
theorem s263_147 {d : Nat} {st : List Value} {σ : am_I} {ρ : am_R} {g : am_J} {τ : am_T} {Q : am_Q} {x1 x2 x3 x4 : Value} {v : Nat} : AW d 263 147 [.ref v, x1, x2, x3, x4] (st) σ ρ g τ Q = AW d 263 148 [.ref v, x1, x2, x3, x4] (.ref v :: st) σ ρ g τ Q := aw_lc m263 d263_147 rfl rfl rfl
theorem d263_148 : decode cX12_deal 148 = .ok (.aload_n 0, 1) := by decide +kernel
theorem s263_148 {d : Nat} {st : List Value} {σ : am_I} {ρ : am_R} {g : am_J} {τ : am_T} {Q : am_Q} {x1 x2 x3 x4 : Value} {v : Nat} : AW d 263 148 [.ref v, x1, x2, x3, x4] (st) σ ρ g τ Q = AW d 263 149 [.ref v, x1, x2, x3, x4] (.ref v :: st) σ ρ g τ Q := aw_lc m263 d263_148 rfl rfl rfl
theorem d263_149 : decode cX12_deal 149 = .ok (.getfield 474, 3) := by decide +kernel
theorem s263_149 {d : Nat} {st : List Value} {σ : am_I} {ρ : am_R} {g : am_J} {τ : am_T} {Q : am_Q} {x0 x1 x2 x3 x4 : Value} {a : Nat} (ht : τ.1 a = 12) : AW d 263 149 [x0, x1, x2, x3, x4] (.ref a :: st) σ ρ g τ Q = AW d 263 152 [x0, x1, x2, x3, x4] (.int (σ a 70) :: st) σ ρ g τ Q := aw_gi m263 d263_149 rfl rfl rfl ht
theorem d263_152 : decode cX12_deal 152 = .ok (.iload_n 3, 1) := by decide +kernel
theorem s263_152 {d : Nat} {st : List Value} {σ : am_I} {ρ : am_R} {g : am_J} {τ : am_T} {Q : am_Q} {x0 x1 x2 x4 : Value} {v : Int32} : AW d 263 152 [x0, x1, x2, .int v, x4] (st) σ ρ g τ Q = AW d 263 153 [x0, x1, x2, .int v, x4] (.int v :: st) σ ρ g τ Q := aw_lc m263 d263_152 rfl rfl rfl
theorem d263_153 : decode cX12_deal 153 = .ok (.invokevirtual 468, 3) := by decide +kernel
theorem s263_153 {d : Nat} {st : List Value} {σ : am_I} {ρ : am_R} {g : am_J} {τ : am_T} {Q : am_Q} {x0 x1 x2 x3 x4 : Value} {p0 : Nat} {p1 : Int32} {p2 : Int32} (ht : τ.1 p0 = 12) (hs : st.length ≤ 4) : AW (d + 1) 263 153 [x0, x1, x2, x3, x4] (.int p2 :: .int p1 :: .ref p0 :: st) σ ρ g τ Q = AW d 260 0 [.ref p0, .int p1, .int p2] [] σ ρ g τ (fun r9 σ ρ g τ => AW (d + 1) 263 156 [x0, x1, x2, x3, x4] (r9.toList ++ st) σ ρ g τ Q) := aw_cv m263 d263_153 rfl m260 rfl rfl (by decide) en260 ok260 rfl ht hs
theorem d263_156 : decode cX12_deal 156 = .ok (.goto 29, 3) := by decide +kernel
theorem s263_156 {d : Nat} {st : List Value} {σ : am_I} {ρ : am_R} {g : am_J} {τ : am_T} {Q : am_Q} {x0 x1 x2 x3 x4 : Value} : AW d 263 156 [x0, x1, x2, x3, x4] (st) σ ρ g τ Q = AW d 263 185 [x0, x1, x2, x3, x4] (st) σ ρ g τ Q := aw_lc m263 d263_156 rfl rfl rfl
theorem d263_159 : decode cX12_deal 159 = .ok (.iload_n 2, 1) := by decide +kernel
theorem s263_159 {d : Nat} {st : List Value} {σ : am_I} {ρ : am_R} {g : am_J} {τ : am_T} {Q : am_Q} {x0 x1 x3 x4 : Value} {v : Int32} : AW d 263 159 [x0, x1, .int v, x3, x4] (st) σ ρ g τ Q = AW d 263 160 [x0, x1, .int v, x3, x4] (.int v :: st) σ ρ g τ Q := aw_lc m263 d263_159 rfl rfl rfl
theorem d263_160 : decode cX12_deal 160 = .ok (.iconst 2, 1) := by decide +kernel
theorem s263_160 {d : Nat} {st : List Value} {σ : am_I} {ρ : am_R} {g : am_J} {τ : am_T} {Q : am_Q} {x0 x1 x2 x3 x4 : Value} : AW d 263 160 [x0, x1, x2, x3, x4] (st) σ ρ g τ Q = AW d 263 161 [x0, x1, x2, x3, x4] (.int 2 :: st) σ ρ g τ Q := aw_lc m263 d263_160 rfl rfl rfl
theorem d263_161 : decode cX12_deal 161 = .ok (.if_icmp .ne 15, 3) := by decide +kernel
theorem s263_161 {d : Nat} {st : List Value} {σ : am_I} {ρ : am_R} {g : am_J} {τ : am_T} {Q : am_Q} {x0 x1 x2 x3 x4 : Value} {v w : Int32} : AW d 263 161 [x0, x1, x2, x3, x4] (.int w :: .int v :: st) σ ρ g τ Q = if ¬ v = w then AW d 263 176 [x0, x1, x2, x3, x4] (st) σ ρ g τ Q else AW d 263 164 [x0, x1, x2, x3, x4] (st) σ ρ g τ Q := aw_br m263 d263_161 rfl rfl rfl
theorem d263_164 : decode cX12_deal 164 = .ok (.aload_n 0, 1) := by decide +kernel
theorem s263_164 {d : Nat} {st : List Value} {σ : am_I} {ρ : am_R} {g : am_J} {τ : am_T} {Q : am_Q} {x1 x2 x3 x4 : Value} {v : Nat} : AW d 263 164 [.ref v, x1, x2, x3, x4] (st) σ ρ g τ Q = AW d 263 165 [.ref v, x1, x2, x3, x4] (.ref v :: st) σ ρ g τ Q := aw_lc m263 d263_164 rfl rfl rfl
theorem d263_165 : decode cX12_deal 165 = .ok (.aload_n 0, 1) := by decide +kernel
theorem s263_165 {d : Nat} {st : List Value} {σ : am_I} {ρ : am_R} {g : am_J} {τ : am_T} {Q : am_Q} {x1 x2 x3 x4 : Value} {v : Nat} : AW d 263 165 [.ref v, x1, x2, x3, x4] (st) σ ρ g τ Q = AW d 263 166 [.ref v, x1, x2, x3, x4] (.ref v :: st) σ ρ g τ Q := aw_lc m263 d263_165 rfl rfl rfl
theorem d263_166 : decode cX12_deal 166 = .ok (.getfield 474, 3) := by decide +kernel
theorem s263_166 {d : Nat} {st : List Value} {σ : am_I} {ρ : am_R} {g : am_J} {τ : am_T} {Q : am_Q} {x0 x1 x2 x3 x4 : Value} {a : Nat} (ht : τ.1 a = 12) : AW d 263 166 [x0, x1, x2, x3, x4] (.ref a :: st) σ ρ g τ Q = AW d 263 169 [x0, x1, x2, x3, x4] (.int (σ a 70) :: st) σ ρ g τ Q := aw_gi m263 d263_166 rfl rfl rfl ht
theorem d263_169 : decode cX12_deal 169 = .ok (.iload_n 3, 1) := by decide +kernel
theorem s263_169 {d : Nat} {st : List Value} {σ : am_I} {ρ : am_R} {g : am_J} {τ : am_T} {Q : am_Q} {x0 x1 x2 x4 : Value} {v : Int32} : AW d 263 169 [x0, x1, x2, .int v, x4] (st) σ ρ g τ Q = AW d 263 170 [x0, x1, x2, .int v, x4] (.int v :: st) σ ρ g τ Q := aw_lc m263 d263_169 rfl rfl rfl
theorem d263_170 : decode cX12_deal 170 = .ok (.invokevirtual 477, 3) := by decide +kernel
theorem s263_170 {d : Nat} {st : List Value} {σ : am_I} {ρ : am_R} {g : am_J} {τ : am_T} {Q : am_Q} {x0 x1 x2 x3 x4 : Value} {p0 : Nat} {p1 : Int32} {p2 : Int32} (ht : τ.1 p0 = 12) (hs : st.length ≤ 4) : AW (d + 1) 263 170 [x0, x1, x2, x3, x4] (.int p2 :: .int p1 :: .ref p0 :: st) σ ρ g τ Q = AW d 261 0 [.ref p0, .int p1, .int p2, am_jk, am_jk] [] σ ρ g τ (fun r9 σ ρ g τ => AW (d + 1) 263 173 [x0, x1, x2, x3, x4] (r9.toList ++ st) σ ρ g τ Q) := aw_cv m263 d263_170 rfl m261 rfl rfl (by decide) en261 ok261 rfl ht hs
theorem d263_173 : decode cX12_deal 173 = .ok (.goto 12, 3) := by decide +kernel
theorem s263_173 {d : Nat} {st : List Value} {σ : am_I} {ρ : am_R} {g : am_J} {τ : am_T} {Q : am_Q} {x0 x1 x2 x3 x4 : Value} : AW d 263 173 [x0, x1, x2, x3, x4] (st) σ ρ g τ Q = AW d 263 185 [x0, x1, x2, x3, x4] (st) σ ρ g τ Q := aw_lc m263 d263_173 rfl rfl rfl
theorem d263_176 : decode cX12_deal 176 = .ok (.aload_n 0, 1) := by decide +kernel
theorem s263_176 {d : Nat} {st : List Value} {σ : am_I} {ρ : am_R} {g : am_J} {τ : am_T} {Q : am_Q} {x1 x2 x3 x4 : Value} {v : Nat} : AW d 263 176 [.ref v, x1, x2, x3, x4] (st) σ ρ g τ Q = AW d 263 177 [.ref v, x1, x2, x3, x4] (.ref v :: st) σ ρ g τ Q := aw_lc m263 d263_176 rfl rfl rfl
theorem d263_177 : decode cX12_deal 177 = .ok (.aload_n 0, 1) := by decide +kernel
theorem s263_177 {d : Nat} {st : List Value} {σ : am_I} {ρ : am_R} {g : am_J} {τ : am_T} {Q : am_Q} {x1 x2 x3 x4 : Value} {v : Nat} : AW d 263 177 [.ref v, x1, x2, x3, x4] (st) σ ρ g τ Q = AW d 263 178 [.ref v, x1, x2, x3, x4] (.ref v :: st) σ ρ g τ Q := aw_lc m263 d263_177 rfl rfl rfl
theorem d263_178 : decode cX12_deal 178 = .ok (.getfield 474, 3) := by decide +kernel
theorem s263_178 {d : Nat} {st : List Value} {σ : am_I} {ρ : am_R} {g : am_J} {τ : am_T} {Q : am_Q} {x0 x1 x2 x3 x4 : Value} {a : Nat} (ht : τ.1 a = 12) : AW d 263 178 [x0, x1, x2, x3, x4] (.ref a :: st) σ ρ g τ Q = AW d 263 181 [x0, x1, x2, x3, x4] (.int (σ a 70) :: st) σ ρ g τ Q := aw_gi m263 d263_178 rfl rfl rfl ht
theorem d263_181 : decode cX12_deal 181 = .ok (.iload_n 3, 1) := by decide +kernel
theorem s263_181 {d : Nat} {st : List Value} {σ : am_I} {ρ : am_R} {g : am_J} {τ : am_T} {Q : am_Q} {x0 x1 x2 x4 : Value} {v : Int32} : AW d 263 181 [x0, x1, x2, .int v, x4] (st) σ ρ g τ Q = AW d 263 182 [x0, x1, x2, .int v, x4] (.int v :: st) σ ρ g τ Q := aw_lc m263 d263_181 rfl rfl rfl
theorem d263_182 : decode cX12_deal 182 = .ok (.invokevirtual 480, 3) := by decide +kernel
theorem s263_182 {d : Nat} {st : List Value} {σ : am_I} {ρ : am_R} {g : am_J} {τ : am_T} {Q : am_Q} {x0 x1 x2 x3 x4 : Value} {p0 : Nat} {p1 : Int32} {p2 : Int32} (ht : τ.1 p0 = 12) (hs : st.length ≤ 4) : AW (d + 1) 263 182 [x0, x1, x2, x3, x4] (.int p2 :: .int p1 :: .ref p0 :: st) σ ρ g τ Q = AW d 262 0 [.ref p0, .int p1, .int p2] [] σ ρ g τ (fun r9 σ ρ g τ => AW (d + 1) 263 185 [x0, x1, x2, x3, x4] (r9.toList ++ st) σ ρ g τ Q) := aw_cv m263 d263_182 rfl m262 rfl rfl (by decide) en262 ok262 rfl ht hs
theorem d263_185 : decode cX12_deal 185 = .ok (.istore 4, 2) := by decide +kernel
theorem s263_185 {d : Nat} {st : List Value} {σ : am_I} {ρ : am_R} {g : am_J} {τ : am_T} {Q : am_Q} {x0 x1 x2 x4 : Value} {v : Int32} {u : Int32} : AW d 263 185 [x0, x1, x2, .int u, x4] (.int v :: st) σ ρ g τ Q = AW d 263 187 [x0, x1, x2, .int u, .int v] (st) σ ρ g τ Q := aw_lc m263 d263_185 rfl rfl rfl
theorem d263_187 : decode cX12_deal 187 = .ok (.aload_n 0, 1) := by decide +kernel
theorem s263_187 {d : Nat} {st : List Value} {σ : am_I} {ρ : am_R} {g : am_J} {τ : am_T} {Q : am_Q} {x1 x2 x3 x4 : Value} {v : Nat} : AW d 263 187 [.ref v, x1, x2, x3, x4] (st) σ ρ g τ Q = AW d 263 188 [.ref v, x1, x2, x3, x4] (.ref v :: st) σ ρ g τ Q := aw_lc m263 d263_187 rfl rfl rfl
theorem d263_188 : decode cX12_deal 188 = .ok (.getfield 483, 3) := by decide +kernel
theorem s263_188 {d : Nat} {st : List Value} {σ : am_I} {ρ : am_R} {g : am_J} {τ : am_T} {Q : am_Q} {x0 x1 x2 x3 x4 : Value} {a : Nat} (ht : τ.1 a = 12) : AW d 263 188 [x0, x1, x2, x3, x4] (.ref a :: st) σ ρ g τ Q = AW d 263 191 [x0, x1, x2, x3, x4] (.int (σ a 74) :: st) σ ρ g τ Q := aw_gi m263 d263_188 rfl rfl rfl ht
theorem d263_191 : decode cX12_deal 191 = .ok (.ifCond .eq 8, 3) := by decide +kernel
theorem s263_191 {d : Nat} {st : List Value} {σ : am_I} {ρ : am_R} {g : am_J} {τ : am_T} {Q : am_Q} {x0 x1 x2 x3 x4 : Value} {v : Int32} : AW d 263 191 [x0, x1, x2, x3, x4] (.int v :: st) σ ρ g τ Q = if v = 0 then AW d 263 199 [x0, x1, x2, x3, x4] (st) σ ρ g τ Q else AW d 263 194 [x0, x1, x2, x3, x4] (st) σ ρ g τ Q := aw_br m263 d263_191 rfl rfl rfl
theorem d263_194 : decode cX12_deal 194 = .ok (.bipush (-15), 2) := by decide +kernel
theorem s263_194 {d : Nat} {st : List Value} {σ : am_I} {ρ : am_R} {g : am_J} {τ : am_T} {Q : am_Q} {x0 x1 x2 x3 x4 : Value} : AW d 263 194 [x0, x1, x2, x3, x4] (st) σ ρ g τ Q = AW d 263 196 [x0, x1, x2, x3, x4] (.int (-15) :: st) σ ρ g τ Q := aw_lc m263 d263_194 rfl rfl rfl
theorem d263_196 : decode cX12_deal 196 = .ok (.goto 5, 3) := by decide +kernel
theorem s263_196 {d : Nat} {st : List Value} {σ : am_I} {ρ : am_R} {g : am_J} {τ : am_T} {Q : am_Q} {x0 x1 x2 x3 x4 : Value} : AW d 263 196 [x0, x1, x2, x3, x4] (st) σ ρ g τ Q = AW d 263 201 [x0, x1, x2, x3, x4] (st) σ ρ g τ Q := aw_lc m263 d263_196 rfl rfl rfl
theorem d263_199 : decode cX12_deal 199 = .ok (.iload 4, 2) := by decide +kernel
theorem s263_199 {d : Nat} {st : List Value} {σ : am_I} {ρ : am_R} {g : am_J} {τ : am_T} {Q : am_Q} {x0 x1 x2 x3 : Value} {v : Int32} : AW d 263 199 [x0, x1, x2, x3, .int v] (st) σ ρ g τ Q = AW d 263 201 [x0, x1, x2, x3, .int v] (.int v :: st) σ ρ g τ Q := aw_lc m263 d263_199 rfl rfl rfl
theorem d263_201 : decode cX12_deal 201 = .ok (.ireturn, 1) := by decide +kernel
theorem s263_201 {d : Nat} {σ : am_I} {ρ : am_R} {g : am_J} {τ : am_T} {Q : am_Q} {x0 x1 x2 x3 x4 : Value} {v : Int32} : AW d 263 201 [x0, x1, x2, x3, x4] ([.int v]) σ ρ g τ Q = Q (some (.int v)) σ ρ g τ := aw_ri m263 d263_201 rfl
theorem d264_0 : decode cX12_trace 0 = .ok (.iload_n 1, 1) := by decide +kernel
theorem s264_0 {d : Nat} {st : List Value} {σ : am_I} {ρ : am_R} {g : am_J} {τ : am_T} {Q : am_Q} {x0 : Value} {v : Int32} : AW d 264 0 [x0, .int v] (st) σ ρ g τ Q = AW d 264 1 [x0, .int v] (.int v :: st) σ ρ g τ Q := aw_lc m264 d264_0 rfl rfl rfl
theorem d264_1 : decode cX12_trace 1 = .ok (.iconst 0, 1) := by decide +kernel
theorem s264_1 {d : Nat} {st : List Value} {σ : am_I} {ρ : am_R} {g : am_J} {τ : am_T} {Q : am_Q} {x0 x1 : Value} : AW d 264 1 [x0, x1] (st) σ ρ g τ Q = AW d 264 2 [x0, x1] (.int 0 :: st) σ ρ g τ Q := aw_lc m264 d264_1 rfl rfl rfl
theorem d264_2 : decode cX12_trace 2 = .ok (.aload_n 0, 1) := by decide +kernel
theorem s264_2 {d : Nat} {st : List Value} {σ : am_I} {ρ : am_R} {g : am_J} {τ : am_T} {Q : am_Q} {x1 : Value} {v : Nat} : AW d 264 2 [.ref v, x1] (st) σ ρ g τ Q = AW d 264 3 [.ref v, x1] (.ref v :: st) σ ρ g τ Q := aw_lc m264 d264_2 rfl rfl rfl
theorem d264_3 : decode cX12_trace 3 = .ok (.getfield 450, 3) := by decide +kernel
theorem s264_3 {d : Nat} {st : List Value} {σ : am_I} {ρ : am_R} {g : am_J} {τ : am_T} {Q : am_Q} {x0 x1 : Value} {a : Nat} (ht : τ.1 a = 12) : AW d 264 3 [x0, x1] (.ref a :: st) σ ρ g τ Q = AW d 264 6 [x0, x1] (.int (σ a 55) :: st) σ ρ g τ Q := aw_gi m264 d264_3 rfl rfl rfl ht
theorem d264_6 : decode cX12_trace 6 = .ok (.iconst 1, 1) := by decide +kernel
theorem s264_6 {d : Nat} {st : List Value} {σ : am_I} {ρ : am_R} {g : am_J} {τ : am_T} {Q : am_Q} {x0 x1 : Value} : AW d 264 6 [x0, x1] (st) σ ρ g τ Q = AW d 264 7 [x0, x1] (.int 1 :: st) σ ρ g τ Q := aw_lc m264 d264_6 rfl rfl rfl
theorem d264_7 : decode cX12_trace 7 = .ok (.isub, 1) := by decide +kernel
theorem s264_7 {d : Nat} {st : List Value} {σ : am_I} {ρ : am_R} {g : am_J} {τ : am_T} {Q : am_Q} {x0 x1 : Value} {v w : Int32} : AW d 264 7 [x0, x1] (.int w :: .int v :: st) σ ρ g τ Q = AW d 264 8 [x0, x1] (.int (v - w) :: st) σ ρ g τ Q := aw_lc m264 d264_7 rfl rfl rfl
theorem d264_8 : decode cX12_trace 8 = .ok (.invokestatic 194, 3) := by decide +kernel
theorem s264_8 {d : Nat} {st : List Value} {σ : am_I} {ρ : am_R} {g : am_J} {τ : am_T} {Q : am_Q} {x0 x1 : Value} {p0 : Int32} {p1 : Int32} {p2 : Int32} (hs : st.length ≤ 4) : AW (d + 1) 264 8 [x0, x1] (.int p2 :: .int p1 :: .int p0 :: st) σ ρ g τ Q = AW d 165 0 [.int p0, .int p1, .int p2] [] σ ρ g τ (fun r9 σ ρ g τ => AW (d + 1) 264 11 [x0, x1] (r9.toList ++ st) σ ρ g τ Q) := aw_cs m264 d264_8 rfl (by simp only [List.length_cons]; omega) rfl rfl en165 ok165 rfl hs
theorem d264_11 : decode cX12_trace 11 = .ok (.ifCond .eq 12, 3) := by decide +kernel
theorem s264_11 {d : Nat} {st : List Value} {σ : am_I} {ρ : am_R} {g : am_J} {τ : am_T} {Q : am_Q} {x0 x1 : Value} {v : Int32} : AW d 264 11 [x0, x1] (.int v :: st) σ ρ g τ Q = if v = 0 then AW d 264 23 [x0, x1] (st) σ ρ g τ Q else AW d 264 14 [x0, x1] (st) σ ρ g τ Q := aw_br m264 d264_11 rfl rfl rfl
theorem d264_14 : decode cX12_trace 14 = .ok (.aload_n 0, 1) := by decide +kernel
theorem s264_14 {d : Nat} {st : List Value} {σ : am_I} {ρ : am_R} {g : am_J} {τ : am_T} {Q : am_Q} {x1 : Value} {v : Nat} : AW d 264 14 [.ref v, x1] (st) σ ρ g τ Q = AW d 264 15 [.ref v, x1] (.ref v :: st) σ ρ g τ Q := aw_lc m264 d264_14 rfl rfl rfl
theorem d264_15 : decode cX12_trace 15 = .ok (.getfield 166, 3) := by decide +kernel
theorem s264_15 {d : Nat} {st : List Value} {σ : am_I} {ρ : am_R} {g : am_J} {τ : am_T} {Q : am_Q} {x0 x1 : Value} {a : Nat} (ht : τ.1 a = 12) : AW d 264 15 [x0, x1] (.ref a :: st) σ ρ g τ Q = AW d 264 18 [x0, x1] (va_rf (ρ a 54) :: st) σ ρ g τ Q := aw_gr m264 d264_15 rfl rfl rfl ht
theorem d264_18 : decode cX12_trace 18 = .ok (.iload_n 1, 1) := by decide +kernel
theorem s264_18 {d : Nat} {st : List Value} {σ : am_I} {ρ : am_R} {g : am_J} {τ : am_T} {Q : am_Q} {x0 : Value} {v : Int32} : AW d 264 18 [x0, .int v] (st) σ ρ g τ Q = AW d 264 19 [x0, .int v] (.int v :: st) σ ρ g τ Q := aw_lc m264 d264_18 rfl rfl rfl
theorem d264_19 : decode cX12_trace 19 = .ok (.iaload, 1) := by decide +kernel
theorem s264_19 {d : Nat} {st : List Value} {σ : am_I} {ρ : am_R} {g : am_J} {τ : am_T} {Q : am_Q} {x0 x1 : Value} {a : Nat} {j : Int32} (ht : τ.1 a = 15) (hj : am_inb j (τ.2.1 a) = true) : AW d 264 19 [x0, x1] (.int j :: .ref a :: st) σ ρ g τ Q = AW d 264 20 [x0, x1] (.int (σ a j.toNatClampNeg) :: st) σ ρ g τ Q := aw_ial m264 d264_19 rfl ht hj
theorem d264_20 : decode cX12_trace 20 = .ok (.goto 5, 3) := by decide +kernel
theorem s264_20 {d : Nat} {st : List Value} {σ : am_I} {ρ : am_R} {g : am_J} {τ : am_T} {Q : am_Q} {x0 x1 : Value} : AW d 264 20 [x0, x1] (st) σ ρ g τ Q = AW d 264 25 [x0, x1] (st) σ ρ g τ Q := aw_lc m264 d264_20 rfl rfl rfl
theorem d264_23 : decode cX12_trace 23 = .ok (.bipush (-3), 2) := by decide +kernel
theorem s264_23 {d : Nat} {st : List Value} {σ : am_I} {ρ : am_R} {g : am_J} {τ : am_T} {Q : am_Q} {x0 x1 : Value} : AW d 264 23 [x0, x1] (st) σ ρ g τ Q = AW d 264 25 [x0, x1] (.int (-3) :: st) σ ρ g τ Q := aw_lc m264 d264_23 rfl rfl rfl
theorem d264_25 : decode cX12_trace 25 = .ok (.ireturn, 1) := by decide +kernel
theorem s264_25 {d : Nat} {σ : am_I} {ρ : am_R} {g : am_J} {τ : am_T} {Q : am_Q} {x0 x1 : Value} {v : Int32} : AW d 264 25 [x0, x1] ([.int v]) σ ρ g τ Q = Q (some (.int v)) σ ρ g τ := aw_ri m264 d264_25 rfl
theorem d265_0 : decode cX12_many 0 = .ok (.iconst 0, 1) := by decide +kernel
theorem s265_0 {d : Nat} {st : List Value} {σ : am_I} {ρ : am_R} {g : am_J} {τ : am_T} {Q : am_Q} {x0 x1 x2 x3 : Value} : AW d 265 0 [x0, x1, x2, x3] (st) σ ρ g τ Q = AW d 265 1 [x0, x1, x2, x3] (.int 0 :: st) σ ρ g τ Q := aw_lc m265 d265_0 rfl rfl rfl
theorem d265_1 : decode cX12_many 1 = .ok (.istore_n 2, 1) := by decide +kernel
theorem s265_1 {d : Nat} {st : List Value} {σ : am_I} {ρ : am_R} {g : am_J} {τ : am_T} {Q : am_Q} {x0 x2 x3 : Value} {v : Int32} {u : Int32} : AW d 265 1 [x0, .int u, x2, x3] (.int v :: st) σ ρ g τ Q = AW d 265 2 [x0, .int u, .int v, x3] (st) σ ρ g τ Q := aw_lc m265 d265_1 rfl rfl rfl
theorem d265_2 : decode cX12_many 2 = .ok (.iload_n 1, 1) := by decide +kernel
theorem s265_2 {d : Nat} {st : List Value} {σ : am_I} {ρ : am_R} {g : am_J} {τ : am_T} {Q : am_Q} {x0 x2 x3 : Value} {v : Int32} : AW d 265 2 [x0, .int v, x2, x3] (st) σ ρ g τ Q = AW d 265 3 [x0, .int v, x2, x3] (.int v :: st) σ ρ g τ Q := aw_lc m265 d265_2 rfl rfl rfl
theorem d265_3 : decode cX12_many 3 = .ok (.tableswitch 243 0 14 #[73, 80, 87, 118, 125, 154, 161, 168, 175, 183, 191, 196, 204, 209, 214], 73) := by decide +kernel
theorem s265_3_0 {d : Nat} {st : List Value} {σ : am_I} {ρ : am_R} {g : am_J} {τ : am_T} {Q : am_Q} {x0 x1 x2 x3 : Value} : AW d 265 3 [x0, x1, x2, x3] (.int 0 :: st) σ ρ g τ Q = AW d 265 76 [x0, x1, x2, x3] (st) σ ρ g τ Q := aw_lc m265 d265_3 rfl rfl rfl
theorem s265_3_1 {d : Nat} {st : List Value} {σ : am_I} {ρ : am_R} {g : am_J} {τ : am_T} {Q : am_Q} {x0 x1 x2 x3 : Value} : AW d 265 3 [x0, x1, x2, x3] (.int 1 :: st) σ ρ g τ Q = AW d 265 83 [x0, x1, x2, x3] (st) σ ρ g τ Q := aw_lc m265 d265_3 rfl rfl rfl
theorem s265_3_2 {d : Nat} {st : List Value} {σ : am_I} {ρ : am_R} {g : am_J} {τ : am_T} {Q : am_Q} {x0 x1 x2 x3 : Value} : AW d 265 3 [x0, x1, x2, x3] (.int 2 :: st) σ ρ g τ Q = AW d 265 90 [x0, x1, x2, x3] (st) σ ρ g τ Q := aw_lc m265 d265_3 rfl rfl rfl
theorem s265_3_3 {d : Nat} {st : List Value} {σ : am_I} {ρ : am_R} {g : am_J} {τ : am_T} {Q : am_Q} {x0 x1 x2 x3 : Value} : AW d 265 3 [x0, x1, x2, x3] (.int 3 :: st) σ ρ g τ Q = AW d 265 121 [x0, x1, x2, x3] (st) σ ρ g τ Q := aw_lc m265 d265_3 rfl rfl rfl
theorem s265_3_4 {d : Nat} {st : List Value} {σ : am_I} {ρ : am_R} {g : am_J} {τ : am_T} {Q : am_Q} {x0 x1 x2 x3 : Value} : AW d 265 3 [x0, x1, x2, x3] (.int 4 :: st) σ ρ g τ Q = AW d 265 128 [x0, x1, x2, x3] (st) σ ρ g τ Q := aw_lc m265 d265_3 rfl rfl rfl
theorem s265_3_5 {d : Nat} {st : List Value} {σ : am_I} {ρ : am_R} {g : am_J} {τ : am_T} {Q : am_Q} {x0 x1 x2 x3 : Value} : AW d 265 3 [x0, x1, x2, x3] (.int 5 :: st) σ ρ g τ Q = AW d 265 157 [x0, x1, x2, x3] (st) σ ρ g τ Q := aw_lc m265 d265_3 rfl rfl rfl
theorem s265_3_6 {d : Nat} {st : List Value} {σ : am_I} {ρ : am_R} {g : am_J} {τ : am_T} {Q : am_Q} {x0 x1 x2 x3 : Value} : AW d 265 3 [x0, x1, x2, x3] (.int 6 :: st) σ ρ g τ Q = AW d 265 164 [x0, x1, x2, x3] (st) σ ρ g τ Q := aw_lc m265 d265_3 rfl rfl rfl
theorem s265_3_7 {d : Nat} {st : List Value} {σ : am_I} {ρ : am_R} {g : am_J} {τ : am_T} {Q : am_Q} {x0 x1 x2 x3 : Value} : AW d 265 3 [x0, x1, x2, x3] (.int 7 :: st) σ ρ g τ Q = AW d 265 171 [x0, x1, x2, x3] (st) σ ρ g τ Q := aw_lc m265 d265_3 rfl rfl rfl
theorem s265_3_8 {d : Nat} {st : List Value} {σ : am_I} {ρ : am_R} {g : am_J} {τ : am_T} {Q : am_Q} {x0 x1 x2 x3 : Value} : AW d 265 3 [x0, x1, x2, x3] (.int 8 :: st) σ ρ g τ Q = AW d 265 178 [x0, x1, x2, x3] (st) σ ρ g τ Q := aw_lc m265 d265_3 rfl rfl rfl
theorem s265_3_9 {d : Nat} {st : List Value} {σ : am_I} {ρ : am_R} {g : am_J} {τ : am_T} {Q : am_Q} {x0 x1 x2 x3 : Value} : AW d 265 3 [x0, x1, x2, x3] (.int 9 :: st) σ ρ g τ Q = AW d 265 186 [x0, x1, x2, x3] (st) σ ρ g τ Q := aw_lc m265 d265_3 rfl rfl rfl
theorem s265_3_10 {d : Nat} {st : List Value} {σ : am_I} {ρ : am_R} {g : am_J} {τ : am_T} {Q : am_Q} {x0 x1 x2 x3 : Value} : AW d 265 3 [x0, x1, x2, x3] (.int 10 :: st) σ ρ g τ Q = AW d 265 194 [x0, x1, x2, x3] (st) σ ρ g τ Q := aw_lc m265 d265_3 rfl rfl rfl
theorem s265_3_11 {d : Nat} {st : List Value} {σ : am_I} {ρ : am_R} {g : am_J} {τ : am_T} {Q : am_Q} {x0 x1 x2 x3 : Value} : AW d 265 3 [x0, x1, x2, x3] (.int 11 :: st) σ ρ g τ Q = AW d 265 199 [x0, x1, x2, x3] (st) σ ρ g τ Q := aw_lc m265 d265_3 rfl rfl rfl
theorem s265_3_12 {d : Nat} {st : List Value} {σ : am_I} {ρ : am_R} {g : am_J} {τ : am_T} {Q : am_Q} {x0 x1 x2 x3 : Value} : AW d 265 3 [x0, x1, x2, x3] (.int 12 :: st) σ ρ g τ Q = AW d 265 207 [x0, x1, x2, x3] (st) σ ρ g τ Q := aw_lc m265 d265_3 rfl rfl rfl
theorem s265_3_13 {d : Nat} {st : List Value} {σ : am_I} {ρ : am_R} {g : am_J} {τ : am_T} {Q : am_Q} {x0 x1 x2 x3 : Value} : AW d 265 3 [x0, x1, x2, x3] (.int 13 :: st) σ ρ g τ Q = AW d 265 212 [x0, x1, x2, x3] (st) σ ρ g τ Q := aw_lc m265 d265_3 rfl rfl rfl
theorem s265_3_14 {d : Nat} {st : List Value} {σ : am_I} {ρ : am_R} {g : am_J} {τ : am_T} {Q : am_Q} {x0 x1 x2 x3 : Value} : AW d 265 3 [x0, x1, x2, x3] (.int 14 :: st) σ ρ g τ Q = AW d 265 217 [x0, x1, x2, x3] (st) σ ρ g τ Q := aw_lc m265 d265_3 rfl rfl rfl
theorem s265_3_d {d : Nat} {st : List Value} {σ : am_I} {ρ : am_R} {g : am_J} {τ : am_T} {Q : am_Q} {x0 x1 x2 x3 : Value} {v : Int32} (h : v.toInt < 0 ∨ 14 < v.toInt) : AW d 265 3 [x0, x1, x2, x3] (.int v :: st) σ ρ g τ Q = AW d 265 246 [x0, x1, x2, x3] (st) σ ρ g τ Q := aw_lc m265 d265_3 rfl rfl (by simp only [am_lc]; rw [if_pos h]; rfl)
theorem d265_76 : decode cX12_many 76 = .ok (.aload_n 0, 1) := by decide +kernel
theorem s265_76 {d : Nat} {st : List Value} {σ : am_I} {ρ : am_R} {g : am_J} {τ : am_T} {Q : am_Q} {x1 x2 x3 : Value} {v : Nat} : AW d 265 76 [.ref v, x1, x2, x3] (st) σ ρ g τ Q = AW d 265 77 [.ref v, x1, x2, x3] (.ref v :: st) σ ρ g τ Q := aw_lc m265 d265_76 rfl rfl rfl
theorem d265_77 : decode cX12_many 77 = .ok (.getfield 9, 3) := by decide +kernel
theorem s265_77 {d : Nat} {st : List Value} {σ : am_I} {ρ : am_R} {g : am_J} {τ : am_T} {Q : am_Q} {x0 x1 x2 x3 : Value} {a : Nat} (ht : τ.1 a = 12) : AW d 265 77 [x0, x1, x2, x3] (.ref a :: st) σ ρ g τ Q = AW d 265 80 [x0, x1, x2, x3] (va_rf (ρ a 0) :: st) σ ρ g τ Q := aw_gr m265 d265_77 rfl rfl rfl ht
theorem d265_80 : decode cX12_many 80 = .ok (.iconst 0, 1) := by decide +kernel
theorem s265_80 {d : Nat} {st : List Value} {σ : am_I} {ρ : am_R} {g : am_J} {τ : am_T} {Q : am_Q} {x0 x1 x2 x3 : Value} : AW d 265 80 [x0, x1, x2, x3] (st) σ ρ g τ Q = AW d 265 81 [x0, x1, x2, x3] (.int 0 :: st) σ ρ g τ Q := aw_lc m265 d265_80 rfl rfl rfl
theorem d265_81 : decode cX12_many 81 = .ok (.iaload, 1) := by decide +kernel
theorem s265_81 {d : Nat} {st : List Value} {σ : am_I} {ρ : am_R} {g : am_J} {τ : am_T} {Q : am_Q} {x0 x1 x2 x3 : Value} {a : Nat} {j : Int32} (ht : τ.1 a = 15) (hj : am_inb j (τ.2.1 a) = true) : AW d 265 81 [x0, x1, x2, x3] (.int j :: .ref a :: st) σ ρ g τ Q = AW d 265 82 [x0, x1, x2, x3] (.int (σ a j.toNatClampNeg) :: st) σ ρ g τ Q := aw_ial m265 d265_81 rfl ht hj
theorem d265_82 : decode cX12_many 82 = .ok (.ireturn, 1) := by decide +kernel
theorem s265_82 {d : Nat} {σ : am_I} {ρ : am_R} {g : am_J} {τ : am_T} {Q : am_Q} {x0 x1 x2 x3 : Value} {v : Int32} : AW d 265 82 [x0, x1, x2, x3] ([.int v]) σ ρ g τ Q = Q (some (.int v)) σ ρ g τ := aw_ri m265 d265_82 rfl
theorem d265_83 : decode cX12_many 83 = .ok (.aload_n 0, 1) := by decide +kernel
theorem s265_83 {d : Nat} {st : List Value} {σ : am_I} {ρ : am_R} {g : am_J} {τ : am_T} {Q : am_Q} {x1 x2 x3 : Value} {v : Nat} : AW d 265 83 [.ref v, x1, x2, x3] (st) σ ρ g τ Q = AW d 265 84 [.ref v, x1, x2, x3] (.ref v :: st) σ ρ g τ Q := aw_lc m265 d265_83 rfl rfl rfl
theorem d265_84 : decode cX12_many 84 = .ok (.getfield 9, 3) := by decide +kernel
theorem s265_84 {d : Nat} {st : List Value} {σ : am_I} {ρ : am_R} {g : am_J} {τ : am_T} {Q : am_Q} {x0 x1 x2 x3 : Value} {a : Nat} (ht : τ.1 a = 12) : AW d 265 84 [x0, x1, x2, x3] (.ref a :: st) σ ρ g τ Q = AW d 265 87 [x0, x1, x2, x3] (va_rf (ρ a 0) :: st) σ ρ g τ Q := aw_gr m265 d265_84 rfl rfl rfl ht
theorem d265_87 : decode cX12_many 87 = .ok (.iconst 1, 1) := by decide +kernel
theorem s265_87 {d : Nat} {st : List Value} {σ : am_I} {ρ : am_R} {g : am_J} {τ : am_T} {Q : am_Q} {x0 x1 x2 x3 : Value} : AW d 265 87 [x0, x1, x2, x3] (st) σ ρ g τ Q = AW d 265 88 [x0, x1, x2, x3] (.int 1 :: st) σ ρ g τ Q := aw_lc m265 d265_87 rfl rfl rfl
theorem d265_88 : decode cX12_many 88 = .ok (.iaload, 1) := by decide +kernel
theorem s265_88 {d : Nat} {st : List Value} {σ : am_I} {ρ : am_R} {g : am_J} {τ : am_T} {Q : am_Q} {x0 x1 x2 x3 : Value} {a : Nat} {j : Int32} (ht : τ.1 a = 15) (hj : am_inb j (τ.2.1 a) = true) : AW d 265 88 [x0, x1, x2, x3] (.int j :: .ref a :: st) σ ρ g τ Q = AW d 265 89 [x0, x1, x2, x3] (.int (σ a j.toNatClampNeg) :: st) σ ρ g τ Q := aw_ial m265 d265_88 rfl ht hj
theorem d265_89 : decode cX12_many 89 = .ok (.ireturn, 1) := by decide +kernel
theorem s265_89 {d : Nat} {σ : am_I} {ρ : am_R} {g : am_J} {τ : am_T} {Q : am_Q} {x0 x1 x2 x3 : Value} {v : Int32} : AW d 265 89 [x0, x1, x2, x3] ([.int v]) σ ρ g τ Q = Q (some (.int v)) σ ρ g τ := aw_ri m265 d265_89 rfl
theorem d265_90 : decode cX12_many 90 = .ok (.iconst 0, 1) := by decide +kernel
theorem s265_90 {d : Nat} {st : List Value} {σ : am_I} {ρ : am_R} {g : am_J} {τ : am_T} {Q : am_Q} {x0 x1 x2 x3 : Value} : AW d 265 90 [x0, x1, x2, x3] (st) σ ρ g τ Q = AW d 265 91 [x0, x1, x2, x3] (.int 0 :: st) σ ρ g τ Q := aw_lc m265 d265_90 rfl rfl rfl
theorem d265_91 : decode cX12_many 91 = .ok (.istore_n 3, 1) := by decide +kernel
theorem s265_91 {d : Nat} {st : List Value} {σ : am_I} {ρ : am_R} {g : am_J} {τ : am_T} {Q : am_Q} {x0 x1 x3 : Value} {v : Int32} {u : Int32} : AW d 265 91 [x0, x1, .int u, x3] (.int v :: st) σ ρ g τ Q = AW d 265 92 [x0, x1, .int u, .int v] (st) σ ρ g τ Q := aw_lc m265 d265_91 rfl rfl rfl
theorem d265_92 : decode cX12_many 92 = .ok (.iload_n 3, 1) := by decide +kernel
theorem s265_92 {d : Nat} {st : List Value} {σ : am_I} {ρ : am_R} {g : am_J} {τ : am_T} {Q : am_Q} {x0 x1 x2 : Value} {v : Int32} : AW d 265 92 [x0, x1, x2, .int v] (st) σ ρ g τ Q = AW d 265 93 [x0, x1, x2, .int v] (.int v :: st) σ ρ g τ Q := aw_lc m265 d265_92 rfl rfl rfl
theorem d265_93 : decode cX12_many 93 = .ok (.aload_n 0, 1) := by decide +kernel
theorem s265_93 {d : Nat} {st : List Value} {σ : am_I} {ρ : am_R} {g : am_J} {τ : am_T} {Q : am_Q} {x1 x2 x3 : Value} {v : Nat} : AW d 265 93 [.ref v, x1, x2, x3] (st) σ ρ g τ Q = AW d 265 94 [.ref v, x1, x2, x3] (.ref v :: st) σ ρ g τ Q := aw_lc m265 d265_93 rfl rfl rfl
theorem d265_94 : decode cX12_many 94 = .ok (.getfield 9, 3) := by decide +kernel
theorem s265_94 {d : Nat} {st : List Value} {σ : am_I} {ρ : am_R} {g : am_J} {τ : am_T} {Q : am_Q} {x0 x1 x2 x3 : Value} {a : Nat} (ht : τ.1 a = 12) : AW d 265 94 [x0, x1, x2, x3] (.ref a :: st) σ ρ g τ Q = AW d 265 97 [x0, x1, x2, x3] (va_rf (ρ a 0) :: st) σ ρ g τ Q := aw_gr m265 d265_94 rfl rfl rfl ht
theorem d265_97 : decode cX12_many 97 = .ok (.iconst 1, 1) := by decide +kernel
theorem s265_97 {d : Nat} {st : List Value} {σ : am_I} {ρ : am_R} {g : am_J} {τ : am_T} {Q : am_Q} {x0 x1 x2 x3 : Value} : AW d 265 97 [x0, x1, x2, x3] (st) σ ρ g τ Q = AW d 265 98 [x0, x1, x2, x3] (.int 1 :: st) σ ρ g τ Q := aw_lc m265 d265_97 rfl rfl rfl
theorem d265_98 : decode cX12_many 98 = .ok (.iaload, 1) := by decide +kernel
theorem s265_98 {d : Nat} {st : List Value} {σ : am_I} {ρ : am_R} {g : am_J} {τ : am_T} {Q : am_Q} {x0 x1 x2 x3 : Value} {a : Nat} {j : Int32} (ht : τ.1 a = 15) (hj : am_inb j (τ.2.1 a) = true) : AW d 265 98 [x0, x1, x2, x3] (.int j :: .ref a :: st) σ ρ g τ Q = AW d 265 99 [x0, x1, x2, x3] (.int (σ a j.toNatClampNeg) :: st) σ ρ g τ Q := aw_ial m265 d265_98 rfl ht hj
theorem d265_99 : decode cX12_many 99 = .ok (.if_icmp .ge 20, 3) := by decide +kernel
theorem s265_99 {d : Nat} {st : List Value} {σ : am_I} {ρ : am_R} {g : am_J} {τ : am_T} {Q : am_Q} {x0 x1 x2 x3 : Value} {v w : Int32} : AW d 265 99 [x0, x1, x2, x3] (.int w :: .int v :: st) σ ρ g τ Q = if w ≤ v then AW d 265 119 [x0, x1, x2, x3] (st) σ ρ g τ Q else AW d 265 102 [x0, x1, x2, x3] (st) σ ρ g τ Q := aw_br m265 d265_99 rfl rfl rfl
theorem d265_102 : decode cX12_many 102 = .ok (.aload_n 0, 1) := by decide +kernel
theorem s265_102 {d : Nat} {st : List Value} {σ : am_I} {ρ : am_R} {g : am_J} {τ : am_T} {Q : am_Q} {x1 x2 x3 : Value} {v : Nat} : AW d 265 102 [.ref v, x1, x2, x3] (st) σ ρ g τ Q = AW d 265 103 [.ref v, x1, x2, x3] (.ref v :: st) σ ρ g τ Q := aw_lc m265 d265_102 rfl rfl rfl
theorem d265_103 : decode cX12_many 103 = .ok (.iload_n 3, 1) := by decide +kernel
theorem s265_103 {d : Nat} {st : List Value} {σ : am_I} {ρ : am_R} {g : am_J} {τ : am_T} {Q : am_Q} {x0 x1 x2 : Value} {v : Int32} : AW d 265 103 [x0, x1, x2, .int v] (st) σ ρ g τ Q = AW d 265 104 [x0, x1, x2, .int v] (.int v :: st) σ ρ g τ Q := aw_lc m265 d265_103 rfl rfl rfl
theorem d265_104 : decode cX12_many 104 = .ok (.invokevirtual 202, 3) := by decide +kernel
theorem s265_104 {d : Nat} {st : List Value} {σ : am_I} {ρ : am_R} {g : am_J} {τ : am_T} {Q : am_Q} {x0 x1 x2 x3 : Value} {p0 : Nat} {p1 : Int32} (ht : τ.1 p0 = 12) (hs : st.length ≤ 4) : AW (d + 1) 265 104 [x0, x1, x2, x3] (.int p1 :: .ref p0 :: st) σ ρ g τ Q = AW d 168 0 [.ref p0, .int p1] [] σ ρ g τ (fun r9 σ ρ g τ => AW (d + 1) 265 107 [x0, x1, x2, x3] (r9.toList ++ st) σ ρ g τ Q) := aw_cv m265 d265_104 rfl m168 rfl rfl (by decide) en168 ok168 rfl ht hs
theorem d265_107 : decode cX12_many 107 = .ok (.ifCond .eq 6, 3) := by decide +kernel
theorem s265_107 {d : Nat} {st : List Value} {σ : am_I} {ρ : am_R} {g : am_J} {τ : am_T} {Q : am_Q} {x0 x1 x2 x3 : Value} {v : Int32} : AW d 265 107 [x0, x1, x2, x3] (.int v :: st) σ ρ g τ Q = if v = 0 then AW d 265 113 [x0, x1, x2, x3] (st) σ ρ g τ Q else AW d 265 110 [x0, x1, x2, x3] (st) σ ρ g τ Q := aw_br m265 d265_107 rfl rfl rfl
theorem d265_110 : decode cX12_many 110 = .ok (.iinc 2 1, 3) := by decide +kernel
theorem s265_110 {d : Nat} {st : List Value} {σ : am_I} {ρ : am_R} {g : am_J} {τ : am_T} {Q : am_Q} {x0 x3 : Value} {v : Int32} {u : Int32} : AW d 265 110 [x0, .int u, .int v, x3] (st) σ ρ g τ Q = AW d 265 113 [x0, .int u, .int (v + 1), x3] (st) σ ρ g τ Q := aw_lc m265 d265_110 rfl rfl rfl
theorem d265_113 : decode cX12_many 113 = .ok (.iinc 3 1, 3) := by decide +kernel
theorem s265_113 {d : Nat} {st : List Value} {σ : am_I} {ρ : am_R} {g : am_J} {τ : am_T} {Q : am_Q} {x0 x1 : Value} {v : Int32} {u : Int32} : AW d 265 113 [x0, x1, .int u, .int v] (st) σ ρ g τ Q = AW d 265 116 [x0, x1, .int u, .int (v + 1)] (st) σ ρ g τ Q := aw_lc m265 d265_113 rfl rfl rfl
theorem d265_116 : decode cX12_many 116 = .ok (.goto (-24), 3) := by decide +kernel
theorem s265_116 {d : Nat} {st : List Value} {σ : am_I} {ρ : am_R} {g : am_J} {τ : am_T} {Q : am_Q} {x0 x1 x2 x3 : Value} : AW d 265 116 [x0, x1, x2, x3] (st) σ ρ g τ Q = AW d 265 92 [x0, x1, x2, x3] (st) σ ρ g τ Q := aw_lc m265 d265_116 rfl rfl rfl
theorem d265_119 : decode cX12_many 119 = .ok (.iload_n 2, 1) := by decide +kernel
theorem s265_119 {d : Nat} {st : List Value} {σ : am_I} {ρ : am_R} {g : am_J} {τ : am_T} {Q : am_Q} {x0 x1 x3 : Value} {v : Int32} : AW d 265 119 [x0, x1, .int v, x3] (st) σ ρ g τ Q = AW d 265 120 [x0, x1, .int v, x3] (.int v :: st) σ ρ g τ Q := aw_lc m265 d265_119 rfl rfl rfl
theorem d265_120 : decode cX12_many 120 = .ok (.ireturn, 1) := by decide +kernel
theorem s265_120 {d : Nat} {σ : am_I} {ρ : am_R} {g : am_J} {τ : am_T} {Q : am_Q} {x0 x1 x2 x3 : Value} {v : Int32} : AW d 265 120 [x0, x1, x2, x3] ([.int v]) σ ρ g τ Q = Q (some (.int v)) σ ρ g τ := aw_ri m265 d265_120 rfl
theorem d265_121 : decode cX12_many 121 = .ok (.aload_n 0, 1) := by decide +kernel
theorem s265_121 {d : Nat} {st : List Value} {σ : am_I} {ρ : am_R} {g : am_J} {τ : am_T} {Q : am_Q} {x1 x2 x3 : Value} {v : Nat} : AW d 265 121 [.ref v, x1, x2, x3] (st) σ ρ g τ Q = AW d 265 122 [.ref v, x1, x2, x3] (.ref v :: st) σ ρ g τ Q := aw_lc m265 d265_121 rfl rfl rfl
theorem d265_122 : decode cX12_many 122 = .ok (.getfield 9, 3) := by decide +kernel
theorem s265_122 {d : Nat} {st : List Value} {σ : am_I} {ρ : am_R} {g : am_J} {τ : am_T} {Q : am_Q} {x0 x1 x2 x3 : Value} {a : Nat} (ht : τ.1 a = 12) : AW d 265 122 [x0, x1, x2, x3] (.ref a :: st) σ ρ g τ Q = AW d 265 125 [x0, x1, x2, x3] (va_rf (ρ a 0) :: st) σ ρ g τ Q := aw_gr m265 d265_122 rfl rfl rfl ht
theorem d265_125 : decode cX12_many 125 = .ok (.iconst 2, 1) := by decide +kernel
theorem s265_125 {d : Nat} {st : List Value} {σ : am_I} {ρ : am_R} {g : am_J} {τ : am_T} {Q : am_Q} {x0 x1 x2 x3 : Value} : AW d 265 125 [x0, x1, x2, x3] (st) σ ρ g τ Q = AW d 265 126 [x0, x1, x2, x3] (.int 2 :: st) σ ρ g τ Q := aw_lc m265 d265_125 rfl rfl rfl
theorem d265_126 : decode cX12_many 126 = .ok (.iaload, 1) := by decide +kernel
theorem s265_126 {d : Nat} {st : List Value} {σ : am_I} {ρ : am_R} {g : am_J} {τ : am_T} {Q : am_Q} {x0 x1 x2 x3 : Value} {a : Nat} {j : Int32} (ht : τ.1 a = 15) (hj : am_inb j (τ.2.1 a) = true) : AW d 265 126 [x0, x1, x2, x3] (.int j :: .ref a :: st) σ ρ g τ Q = AW d 265 127 [x0, x1, x2, x3] (.int (σ a j.toNatClampNeg) :: st) σ ρ g τ Q := aw_ial m265 d265_126 rfl ht hj
theorem d265_127 : decode cX12_many 127 = .ok (.ireturn, 1) := by decide +kernel
theorem s265_127 {d : Nat} {σ : am_I} {ρ : am_R} {g : am_J} {τ : am_T} {Q : am_Q} {x0 x1 x2 x3 : Value} {v : Int32} : AW d 265 127 [x0, x1, x2, x3] ([.int v]) σ ρ g τ Q = Q (some (.int v)) σ ρ g τ := aw_ri m265 d265_127 rfl
theorem d265_128 : decode cX12_many 128 = .ok (.iconst 0, 1) := by decide +kernel
theorem s265_128 {d : Nat} {st : List Value} {σ : am_I} {ρ : am_R} {g : am_J} {τ : am_T} {Q : am_Q} {x0 x1 x2 x3 : Value} : AW d 265 128 [x0, x1, x2, x3] (st) σ ρ g τ Q = AW d 265 129 [x0, x1, x2, x3] (.int 0 :: st) σ ρ g τ Q := aw_lc m265 d265_128 rfl rfl rfl
theorem d265_129 : decode cX12_many 129 = .ok (.istore_n 3, 1) := by decide +kernel
theorem s265_129 {d : Nat} {st : List Value} {σ : am_I} {ρ : am_R} {g : am_J} {τ : am_T} {Q : am_Q} {x0 x1 x3 : Value} {v : Int32} {u : Int32} : AW d 265 129 [x0, x1, .int u, x3] (.int v :: st) σ ρ g τ Q = AW d 265 130 [x0, x1, .int u, .int v] (st) σ ρ g τ Q := aw_lc m265 d265_129 rfl rfl rfl
theorem d265_130 : decode cX12_many 130 = .ok (.iload_n 3, 1) := by decide +kernel
theorem s265_130 {d : Nat} {st : List Value} {σ : am_I} {ρ : am_R} {g : am_J} {τ : am_T} {Q : am_Q} {x0 x1 x2 : Value} {v : Int32} : AW d 265 130 [x0, x1, x2, .int v] (st) σ ρ g τ Q = AW d 265 131 [x0, x1, x2, .int v] (.int v :: st) σ ρ g τ Q := aw_lc m265 d265_130 rfl rfl rfl
theorem d265_131 : decode cX12_many 131 = .ok (.aload_n 0, 1) := by decide +kernel
theorem s265_131 {d : Nat} {st : List Value} {σ : am_I} {ρ : am_R} {g : am_J} {τ : am_T} {Q : am_Q} {x1 x2 x3 : Value} {v : Nat} : AW d 265 131 [.ref v, x1, x2, x3] (st) σ ρ g τ Q = AW d 265 132 [.ref v, x1, x2, x3] (.ref v :: st) σ ρ g τ Q := aw_lc m265 d265_131 rfl rfl rfl
theorem d265_132 : decode cX12_many 132 = .ok (.getfield 9, 3) := by decide +kernel
theorem s265_132 {d : Nat} {st : List Value} {σ : am_I} {ρ : am_R} {g : am_J} {τ : am_T} {Q : am_Q} {x0 x1 x2 x3 : Value} {a : Nat} (ht : τ.1 a = 12) : AW d 265 132 [x0, x1, x2, x3] (.ref a :: st) σ ρ g τ Q = AW d 265 135 [x0, x1, x2, x3] (va_rf (ρ a 0) :: st) σ ρ g τ Q := aw_gr m265 d265_132 rfl rfl rfl ht
theorem d265_135 : decode cX12_many 135 = .ok (.iconst 2, 1) := by decide +kernel
theorem s265_135 {d : Nat} {st : List Value} {σ : am_I} {ρ : am_R} {g : am_J} {τ : am_T} {Q : am_Q} {x0 x1 x2 x3 : Value} : AW d 265 135 [x0, x1, x2, x3] (st) σ ρ g τ Q = AW d 265 136 [x0, x1, x2, x3] (.int 2 :: st) σ ρ g τ Q := aw_lc m265 d265_135 rfl rfl rfl
theorem d265_136 : decode cX12_many 136 = .ok (.iaload, 1) := by decide +kernel
theorem s265_136 {d : Nat} {st : List Value} {σ : am_I} {ρ : am_R} {g : am_J} {τ : am_T} {Q : am_Q} {x0 x1 x2 x3 : Value} {a : Nat} {j : Int32} (ht : τ.1 a = 15) (hj : am_inb j (τ.2.1 a) = true) : AW d 265 136 [x0, x1, x2, x3] (.int j :: .ref a :: st) σ ρ g τ Q = AW d 265 137 [x0, x1, x2, x3] (.int (σ a j.toNatClampNeg) :: st) σ ρ g τ Q := aw_ial m265 d265_136 rfl ht hj
theorem d265_137 : decode cX12_many 137 = .ok (.if_icmp .ge 18, 3) := by decide +kernel
theorem s265_137 {d : Nat} {st : List Value} {σ : am_I} {ρ : am_R} {g : am_J} {τ : am_T} {Q : am_Q} {x0 x1 x2 x3 : Value} {v w : Int32} : AW d 265 137 [x0, x1, x2, x3] (.int w :: .int v :: st) σ ρ g τ Q = if w ≤ v then AW d 265 155 [x0, x1, x2, x3] (st) σ ρ g τ Q else AW d 265 140 [x0, x1, x2, x3] (st) σ ρ g τ Q := aw_br m265 d265_137 rfl rfl rfl
theorem d265_140 : decode cX12_many 140 = .ok (.iload_n 2, 1) := by decide +kernel
theorem s265_140 {d : Nat} {st : List Value} {σ : am_I} {ρ : am_R} {g : am_J} {τ : am_T} {Q : am_Q} {x0 x1 x3 : Value} {v : Int32} : AW d 265 140 [x0, x1, .int v, x3] (st) σ ρ g τ Q = AW d 265 141 [x0, x1, .int v, x3] (.int v :: st) σ ρ g τ Q := aw_lc m265 d265_140 rfl rfl rfl
theorem d265_141 : decode cX12_many 141 = .ok (.aload_n 0, 1) := by decide +kernel
theorem s265_141 {d : Nat} {st : List Value} {σ : am_I} {ρ : am_R} {g : am_J} {τ : am_T} {Q : am_Q} {x1 x2 x3 : Value} {v : Nat} : AW d 265 141 [.ref v, x1, x2, x3] (st) σ ρ g τ Q = AW d 265 142 [.ref v, x1, x2, x3] (.ref v :: st) σ ρ g τ Q := aw_lc m265 d265_141 rfl rfl rfl
theorem d265_142 : decode cX12_many 142 = .ok (.getfield 58, 3) := by decide +kernel
theorem s265_142 {d : Nat} {st : List Value} {σ : am_I} {ρ : am_R} {g : am_J} {τ : am_T} {Q : am_Q} {x0 x1 x2 x3 : Value} {a : Nat} (ht : τ.1 a = 12) : AW d 265 142 [x0, x1, x2, x3] (.ref a :: st) σ ρ g τ Q = AW d 265 145 [x0, x1, x2, x3] (va_rf (ρ a 16) :: st) σ ρ g τ Q := aw_gr m265 d265_142 rfl rfl rfl ht
theorem d265_145 : decode cX12_many 145 = .ok (.iload_n 3, 1) := by decide +kernel
theorem s265_145 {d : Nat} {st : List Value} {σ : am_I} {ρ : am_R} {g : am_J} {τ : am_T} {Q : am_Q} {x0 x1 x2 : Value} {v : Int32} : AW d 265 145 [x0, x1, x2, .int v] (st) σ ρ g τ Q = AW d 265 146 [x0, x1, x2, .int v] (.int v :: st) σ ρ g τ Q := aw_lc m265 d265_145 rfl rfl rfl
theorem d265_146 : decode cX12_many 146 = .ok (.iaload, 1) := by decide +kernel
theorem s265_146 {d : Nat} {st : List Value} {σ : am_I} {ρ : am_R} {g : am_J} {τ : am_T} {Q : am_Q} {x0 x1 x2 x3 : Value} {a : Nat} {j : Int32} (ht : τ.1 a = 15) (hj : am_inb j (τ.2.1 a) = true) : AW d 265 146 [x0, x1, x2, x3] (.int j :: .ref a :: st) σ ρ g τ Q = AW d 265 147 [x0, x1, x2, x3] (.int (σ a j.toNatClampNeg) :: st) σ ρ g τ Q := aw_ial m265 d265_146 rfl ht hj
theorem d265_147 : decode cX12_many 147 = .ok (.iadd, 1) := by decide +kernel
theorem s265_147 {d : Nat} {st : List Value} {σ : am_I} {ρ : am_R} {g : am_J} {τ : am_T} {Q : am_Q} {x0 x1 x2 x3 : Value} {v w : Int32} : AW d 265 147 [x0, x1, x2, x3] (.int w :: .int v :: st) σ ρ g τ Q = AW d 265 148 [x0, x1, x2, x3] (.int (v + w) :: st) σ ρ g τ Q := aw_lc m265 d265_147 rfl rfl rfl
theorem d265_148 : decode cX12_many 148 = .ok (.istore_n 2, 1) := by decide +kernel
theorem s265_148 {d : Nat} {st : List Value} {σ : am_I} {ρ : am_R} {g : am_J} {τ : am_T} {Q : am_Q} {x0 x2 x3 : Value} {v : Int32} {u : Int32} : AW d 265 148 [x0, .int u, x2, x3] (.int v :: st) σ ρ g τ Q = AW d 265 149 [x0, .int u, .int v, x3] (st) σ ρ g τ Q := aw_lc m265 d265_148 rfl rfl rfl
theorem d265_149 : decode cX12_many 149 = .ok (.iinc 3 1, 3) := by decide +kernel
theorem s265_149 {d : Nat} {st : List Value} {σ : am_I} {ρ : am_R} {g : am_J} {τ : am_T} {Q : am_Q} {x0 x1 : Value} {v : Int32} {u : Int32} : AW d 265 149 [x0, x1, .int u, .int v] (st) σ ρ g τ Q = AW d 265 152 [x0, x1, .int u, .int (v + 1)] (st) σ ρ g τ Q := aw_lc m265 d265_149 rfl rfl rfl
theorem d265_152 : decode cX12_many 152 = .ok (.goto (-22), 3) := by decide +kernel
theorem s265_152 {d : Nat} {st : List Value} {σ : am_I} {ρ : am_R} {g : am_J} {τ : am_T} {Q : am_Q} {x0 x1 x2 x3 : Value} : AW d 265 152 [x0, x1, x2, x3] (st) σ ρ g τ Q = AW d 265 130 [x0, x1, x2, x3] (st) σ ρ g τ Q := aw_lc m265 d265_152 rfl rfl rfl
theorem d265_155 : decode cX12_many 155 = .ok (.iload_n 2, 1) := by decide +kernel
theorem s265_155 {d : Nat} {st : List Value} {σ : am_I} {ρ : am_R} {g : am_J} {τ : am_T} {Q : am_Q} {x0 x1 x3 : Value} {v : Int32} : AW d 265 155 [x0, x1, .int v, x3] (st) σ ρ g τ Q = AW d 265 156 [x0, x1, .int v, x3] (.int v :: st) σ ρ g τ Q := aw_lc m265 d265_155 rfl rfl rfl
theorem d265_156 : decode cX12_many 156 = .ok (.ireturn, 1) := by decide +kernel
theorem s265_156 {d : Nat} {σ : am_I} {ρ : am_R} {g : am_J} {τ : am_T} {Q : am_Q} {x0 x1 x2 x3 : Value} {v : Int32} : AW d 265 156 [x0, x1, x2, x3] ([.int v]) σ ρ g τ Q = Q (some (.int v)) σ ρ g τ := aw_ri m265 d265_156 rfl
theorem d265_157 : decode cX12_many 157 = .ok (.aload_n 0, 1) := by decide +kernel
theorem s265_157 {d : Nat} {st : List Value} {σ : am_I} {ρ : am_R} {g : am_J} {τ : am_T} {Q : am_Q} {x1 x2 x3 : Value} {v : Nat} : AW d 265 157 [.ref v, x1, x2, x3] (st) σ ρ g τ Q = AW d 265 158 [.ref v, x1, x2, x3] (.ref v :: st) σ ρ g τ Q := aw_lc m265 d265_157 rfl rfl rfl
theorem d265_158 : decode cX12_many 158 = .ok (.getfield 9, 3) := by decide +kernel
theorem s265_158 {d : Nat} {st : List Value} {σ : am_I} {ρ : am_R} {g : am_J} {τ : am_T} {Q : am_Q} {x0 x1 x2 x3 : Value} {a : Nat} (ht : τ.1 a = 12) : AW d 265 158 [x0, x1, x2, x3] (.ref a :: st) σ ρ g τ Q = AW d 265 161 [x0, x1, x2, x3] (va_rf (ρ a 0) :: st) σ ρ g τ Q := aw_gr m265 d265_158 rfl rfl rfl ht
theorem d265_161 : decode cX12_many 161 = .ok (.iconst 3, 1) := by decide +kernel
theorem s265_161 {d : Nat} {st : List Value} {σ : am_I} {ρ : am_R} {g : am_J} {τ : am_T} {Q : am_Q} {x0 x1 x2 x3 : Value} : AW d 265 161 [x0, x1, x2, x3] (st) σ ρ g τ Q = AW d 265 162 [x0, x1, x2, x3] (.int 3 :: st) σ ρ g τ Q := aw_lc m265 d265_161 rfl rfl rfl
theorem d265_162 : decode cX12_many 162 = .ok (.iaload, 1) := by decide +kernel
theorem s265_162 {d : Nat} {st : List Value} {σ : am_I} {ρ : am_R} {g : am_J} {τ : am_T} {Q : am_Q} {x0 x1 x2 x3 : Value} {a : Nat} {j : Int32} (ht : τ.1 a = 15) (hj : am_inb j (τ.2.1 a) = true) : AW d 265 162 [x0, x1, x2, x3] (.int j :: .ref a :: st) σ ρ g τ Q = AW d 265 163 [x0, x1, x2, x3] (.int (σ a j.toNatClampNeg) :: st) σ ρ g τ Q := aw_ial m265 d265_162 rfl ht hj
theorem d265_163 : decode cX12_many 163 = .ok (.ireturn, 1) := by decide +kernel
theorem s265_163 {d : Nat} {σ : am_I} {ρ : am_R} {g : am_J} {τ : am_T} {Q : am_Q} {x0 x1 x2 x3 : Value} {v : Int32} : AW d 265 163 [x0, x1, x2, x3] ([.int v]) σ ρ g τ Q = Q (some (.int v)) σ ρ g τ := aw_ri m265 d265_163 rfl
theorem d265_164 : decode cX12_many 164 = .ok (.aload_n 0, 1) := by decide +kernel
theorem s265_164 {d : Nat} {st : List Value} {σ : am_I} {ρ : am_R} {g : am_J} {τ : am_T} {Q : am_Q} {x1 x2 x3 : Value} {v : Nat} : AW d 265 164 [.ref v, x1, x2, x3] (st) σ ρ g τ Q = AW d 265 165 [.ref v, x1, x2, x3] (.ref v :: st) σ ρ g τ Q := aw_lc m265 d265_164 rfl rfl rfl
theorem d265_165 : decode cX12_many 165 = .ok (.getfield 9, 3) := by decide +kernel
theorem s265_165 {d : Nat} {st : List Value} {σ : am_I} {ρ : am_R} {g : am_J} {τ : am_T} {Q : am_Q} {x0 x1 x2 x3 : Value} {a : Nat} (ht : τ.1 a = 12) : AW d 265 165 [x0, x1, x2, x3] (.ref a :: st) σ ρ g τ Q = AW d 265 168 [x0, x1, x2, x3] (va_rf (ρ a 0) :: st) σ ρ g τ Q := aw_gr m265 d265_165 rfl rfl rfl ht
theorem d265_168 : decode cX12_many 168 = .ok (.iconst 4, 1) := by decide +kernel
theorem s265_168 {d : Nat} {st : List Value} {σ : am_I} {ρ : am_R} {g : am_J} {τ : am_T} {Q : am_Q} {x0 x1 x2 x3 : Value} : AW d 265 168 [x0, x1, x2, x3] (st) σ ρ g τ Q = AW d 265 169 [x0, x1, x2, x3] (.int 4 :: st) σ ρ g τ Q := aw_lc m265 d265_168 rfl rfl rfl
theorem d265_169 : decode cX12_many 169 = .ok (.iaload, 1) := by decide +kernel
theorem s265_169 {d : Nat} {st : List Value} {σ : am_I} {ρ : am_R} {g : am_J} {τ : am_T} {Q : am_Q} {x0 x1 x2 x3 : Value} {a : Nat} {j : Int32} (ht : τ.1 a = 15) (hj : am_inb j (τ.2.1 a) = true) : AW d 265 169 [x0, x1, x2, x3] (.int j :: .ref a :: st) σ ρ g τ Q = AW d 265 170 [x0, x1, x2, x3] (.int (σ a j.toNatClampNeg) :: st) σ ρ g τ Q := aw_ial m265 d265_169 rfl ht hj
theorem d265_170 : decode cX12_many 170 = .ok (.ireturn, 1) := by decide +kernel
theorem s265_170 {d : Nat} {σ : am_I} {ρ : am_R} {g : am_J} {τ : am_T} {Q : am_Q} {x0 x1 x2 x3 : Value} {v : Int32} : AW d 265 170 [x0, x1, x2, x3] ([.int v]) σ ρ g τ Q = Q (some (.int v)) σ ρ g τ := aw_ri m265 d265_170 rfl
theorem d265_171 : decode cX12_many 171 = .ok (.aload_n 0, 1) := by decide +kernel
theorem s265_171 {d : Nat} {st : List Value} {σ : am_I} {ρ : am_R} {g : am_J} {τ : am_T} {Q : am_Q} {x1 x2 x3 : Value} {v : Nat} : AW d 265 171 [.ref v, x1, x2, x3] (st) σ ρ g τ Q = AW d 265 172 [.ref v, x1, x2, x3] (.ref v :: st) σ ρ g τ Q := aw_lc m265 d265_171 rfl rfl rfl
theorem d265_172 : decode cX12_many 172 = .ok (.getfield 9, 3) := by decide +kernel
theorem s265_172 {d : Nat} {st : List Value} {σ : am_I} {ρ : am_R} {g : am_J} {τ : am_T} {Q : am_Q} {x0 x1 x2 x3 : Value} {a : Nat} (ht : τ.1 a = 12) : AW d 265 172 [x0, x1, x2, x3] (.ref a :: st) σ ρ g τ Q = AW d 265 175 [x0, x1, x2, x3] (va_rf (ρ a 0) :: st) σ ρ g τ Q := aw_gr m265 d265_172 rfl rfl rfl ht
theorem d265_175 : decode cX12_many 175 = .ok (.iconst 5, 1) := by decide +kernel
theorem s265_175 {d : Nat} {st : List Value} {σ : am_I} {ρ : am_R} {g : am_J} {τ : am_T} {Q : am_Q} {x0 x1 x2 x3 : Value} : AW d 265 175 [x0, x1, x2, x3] (st) σ ρ g τ Q = AW d 265 176 [x0, x1, x2, x3] (.int 5 :: st) σ ρ g τ Q := aw_lc m265 d265_175 rfl rfl rfl
theorem d265_176 : decode cX12_many 176 = .ok (.iaload, 1) := by decide +kernel
theorem s265_176 {d : Nat} {st : List Value} {σ : am_I} {ρ : am_R} {g : am_J} {τ : am_T} {Q : am_Q} {x0 x1 x2 x3 : Value} {a : Nat} {j : Int32} (ht : τ.1 a = 15) (hj : am_inb j (τ.2.1 a) = true) : AW d 265 176 [x0, x1, x2, x3] (.int j :: .ref a :: st) σ ρ g τ Q = AW d 265 177 [x0, x1, x2, x3] (.int (σ a j.toNatClampNeg) :: st) σ ρ g τ Q := aw_ial m265 d265_176 rfl ht hj
theorem d265_177 : decode cX12_many 177 = .ok (.ireturn, 1) := by decide +kernel
theorem s265_177 {d : Nat} {σ : am_I} {ρ : am_R} {g : am_J} {τ : am_T} {Q : am_Q} {x0 x1 x2 x3 : Value} {v : Int32} : AW d 265 177 [x0, x1, x2, x3] ([.int v]) σ ρ g τ Q = Q (some (.int v)) σ ρ g τ := aw_ri m265 d265_177 rfl
theorem d265_178 : decode cX12_many 178 = .ok (.aload_n 0, 1) := by decide +kernel
theorem s265_178 {d : Nat} {st : List Value} {σ : am_I} {ρ : am_R} {g : am_J} {τ : am_T} {Q : am_Q} {x1 x2 x3 : Value} {v : Nat} : AW d 265 178 [.ref v, x1, x2, x3] (st) σ ρ g τ Q = AW d 265 179 [.ref v, x1, x2, x3] (.ref v :: st) σ ρ g τ Q := aw_lc m265 d265_178 rfl rfl rfl
theorem d265_179 : decode cX12_many 179 = .ok (.getfield 9, 3) := by decide +kernel
theorem s265_179 {d : Nat} {st : List Value} {σ : am_I} {ρ : am_R} {g : am_J} {τ : am_T} {Q : am_Q} {x0 x1 x2 x3 : Value} {a : Nat} (ht : τ.1 a = 12) : AW d 265 179 [x0, x1, x2, x3] (.ref a :: st) σ ρ g τ Q = AW d 265 182 [x0, x1, x2, x3] (va_rf (ρ a 0) :: st) σ ρ g τ Q := aw_gr m265 d265_179 rfl rfl rfl ht
theorem d265_182 : decode cX12_many 182 = .ok (.bipush 6, 2) := by decide +kernel
theorem s265_182 {d : Nat} {st : List Value} {σ : am_I} {ρ : am_R} {g : am_J} {τ : am_T} {Q : am_Q} {x0 x1 x2 x3 : Value} : AW d 265 182 [x0, x1, x2, x3] (st) σ ρ g τ Q = AW d 265 184 [x0, x1, x2, x3] (.int 6 :: st) σ ρ g τ Q := aw_lc m265 d265_182 rfl rfl rfl
theorem d265_184 : decode cX12_many 184 = .ok (.iaload, 1) := by decide +kernel
theorem s265_184 {d : Nat} {st : List Value} {σ : am_I} {ρ : am_R} {g : am_J} {τ : am_T} {Q : am_Q} {x0 x1 x2 x3 : Value} {a : Nat} {j : Int32} (ht : τ.1 a = 15) (hj : am_inb j (τ.2.1 a) = true) : AW d 265 184 [x0, x1, x2, x3] (.int j :: .ref a :: st) σ ρ g τ Q = AW d 265 185 [x0, x1, x2, x3] (.int (σ a j.toNatClampNeg) :: st) σ ρ g τ Q := aw_ial m265 d265_184 rfl ht hj
theorem d265_185 : decode cX12_many 185 = .ok (.ireturn, 1) := by decide +kernel
theorem s265_185 {d : Nat} {σ : am_I} {ρ : am_R} {g : am_J} {τ : am_T} {Q : am_Q} {x0 x1 x2 x3 : Value} {v : Int32} : AW d 265 185 [x0, x1, x2, x3] ([.int v]) σ ρ g τ Q = Q (some (.int v)) σ ρ g τ := aw_ri m265 d265_185 rfl
theorem d265_186 : decode cX12_many 186 = .ok (.aload_n 0, 1) := by decide +kernel
theorem s265_186 {d : Nat} {st : List Value} {σ : am_I} {ρ : am_R} {g : am_J} {τ : am_T} {Q : am_Q} {x1 x2 x3 : Value} {v : Nat} : AW d 265 186 [.ref v, x1, x2, x3] (st) σ ρ g τ Q = AW d 265 187 [.ref v, x1, x2, x3] (.ref v :: st) σ ρ g τ Q := aw_lc m265 d265_186 rfl rfl rfl
theorem d265_187 : decode cX12_many 187 = .ok (.getfield 9, 3) := by decide +kernel
theorem s265_187 {d : Nat} {st : List Value} {σ : am_I} {ρ : am_R} {g : am_J} {τ : am_T} {Q : am_Q} {x0 x1 x2 x3 : Value} {a : Nat} (ht : τ.1 a = 12) : AW d 265 187 [x0, x1, x2, x3] (.ref a :: st) σ ρ g τ Q = AW d 265 190 [x0, x1, x2, x3] (va_rf (ρ a 0) :: st) σ ρ g τ Q := aw_gr m265 d265_187 rfl rfl rfl ht
theorem d265_190 : decode cX12_many 190 = .ok (.bipush 7, 2) := by decide +kernel
theorem s265_190 {d : Nat} {st : List Value} {σ : am_I} {ρ : am_R} {g : am_J} {τ : am_T} {Q : am_Q} {x0 x1 x2 x3 : Value} : AW d 265 190 [x0, x1, x2, x3] (st) σ ρ g τ Q = AW d 265 192 [x0, x1, x2, x3] (.int 7 :: st) σ ρ g τ Q := aw_lc m265 d265_190 rfl rfl rfl
theorem d265_192 : decode cX12_many 192 = .ok (.iaload, 1) := by decide +kernel
theorem s265_192 {d : Nat} {st : List Value} {σ : am_I} {ρ : am_R} {g : am_J} {τ : am_T} {Q : am_Q} {x0 x1 x2 x3 : Value} {a : Nat} {j : Int32} (ht : τ.1 a = 15) (hj : am_inb j (τ.2.1 a) = true) : AW d 265 192 [x0, x1, x2, x3] (.int j :: .ref a :: st) σ ρ g τ Q = AW d 265 193 [x0, x1, x2, x3] (.int (σ a j.toNatClampNeg) :: st) σ ρ g τ Q := aw_ial m265 d265_192 rfl ht hj
theorem d265_193 : decode cX12_many 193 = .ok (.ireturn, 1) := by decide +kernel
theorem s265_193 {d : Nat} {σ : am_I} {ρ : am_R} {g : am_J} {τ : am_T} {Q : am_Q} {x0 x1 x2 x3 : Value} {v : Int32} : AW d 265 193 [x0, x1, x2, x3] ([.int v]) σ ρ g τ Q = Q (some (.int v)) σ ρ g τ := aw_ri m265 d265_193 rfl
theorem d265_194 : decode cX12_many 194 = .ok (.aload_n 0, 1) := by decide +kernel
theorem s265_194 {d : Nat} {st : List Value} {σ : am_I} {ρ : am_R} {g : am_J} {τ : am_T} {Q : am_Q} {x1 x2 x3 : Value} {v : Nat} : AW d 265 194 [.ref v, x1, x2, x3] (st) σ ρ g τ Q = AW d 265 195 [.ref v, x1, x2, x3] (.ref v :: st) σ ρ g τ Q := aw_lc m265 d265_194 rfl rfl rfl
theorem d265_195 : decode cX12_many 195 = .ok (.getfield 437, 3) := by decide +kernel
theorem s265_195 {d : Nat} {st : List Value} {σ : am_I} {ρ : am_R} {g : am_J} {τ : am_T} {Q : am_Q} {x0 x1 x2 x3 : Value} {a : Nat} (ht : τ.1 a = 12) : AW d 265 195 [x0, x1, x2, x3] (.ref a :: st) σ ρ g τ Q = AW d 265 198 [x0, x1, x2, x3] (.int (σ a 47) :: st) σ ρ g τ Q := aw_gi m265 d265_195 rfl rfl rfl ht
theorem d265_198 : decode cX12_many 198 = .ok (.ireturn, 1) := by decide +kernel
theorem s265_198 {d : Nat} {σ : am_I} {ρ : am_R} {g : am_J} {τ : am_T} {Q : am_Q} {x0 x1 x2 x3 : Value} {v : Int32} : AW d 265 198 [x0, x1, x2, x3] ([.int v]) σ ρ g τ Q = Q (some (.int v)) σ ρ g τ := aw_ri m265 d265_198 rfl
theorem d265_199 : decode cX12_many 199 = .ok (.aload_n 0, 1) := by decide +kernel
theorem s265_199 {d : Nat} {st : List Value} {σ : am_I} {ρ : am_R} {g : am_J} {τ : am_T} {Q : am_Q} {x1 x2 x3 : Value} {v : Nat} : AW d 265 199 [.ref v, x1, x2, x3] (st) σ ρ g τ Q = AW d 265 200 [.ref v, x1, x2, x3] (.ref v :: st) σ ρ g τ Q := aw_lc m265 d265_199 rfl rfl rfl
theorem d265_200 : decode cX12_many 200 = .ok (.getfield 9, 3) := by decide +kernel
theorem s265_200 {d : Nat} {st : List Value} {σ : am_I} {ρ : am_R} {g : am_J} {τ : am_T} {Q : am_Q} {x0 x1 x2 x3 : Value} {a : Nat} (ht : τ.1 a = 12) : AW d 265 200 [x0, x1, x2, x3] (.ref a :: st) σ ρ g τ Q = AW d 265 203 [x0, x1, x2, x3] (va_rf (ρ a 0) :: st) σ ρ g τ Q := aw_gr m265 d265_200 rfl rfl rfl ht
theorem d265_203 : decode cX12_many 203 = .ok (.bipush 8, 2) := by decide +kernel
theorem s265_203 {d : Nat} {st : List Value} {σ : am_I} {ρ : am_R} {g : am_J} {τ : am_T} {Q : am_Q} {x0 x1 x2 x3 : Value} : AW d 265 203 [x0, x1, x2, x3] (st) σ ρ g τ Q = AW d 265 205 [x0, x1, x2, x3] (.int 8 :: st) σ ρ g τ Q := aw_lc m265 d265_203 rfl rfl rfl
theorem d265_205 : decode cX12_many 205 = .ok (.iaload, 1) := by decide +kernel
theorem s265_205 {d : Nat} {st : List Value} {σ : am_I} {ρ : am_R} {g : am_J} {τ : am_T} {Q : am_Q} {x0 x1 x2 x3 : Value} {a : Nat} {j : Int32} (ht : τ.1 a = 15) (hj : am_inb j (τ.2.1 a) = true) : AW d 265 205 [x0, x1, x2, x3] (.int j :: .ref a :: st) σ ρ g τ Q = AW d 265 206 [x0, x1, x2, x3] (.int (σ a j.toNatClampNeg) :: st) σ ρ g τ Q := aw_ial m265 d265_205 rfl ht hj
theorem d265_206 : decode cX12_many 206 = .ok (.ireturn, 1) := by decide +kernel
theorem s265_206 {d : Nat} {σ : am_I} {ρ : am_R} {g : am_J} {τ : am_T} {Q : am_Q} {x0 x1 x2 x3 : Value} {v : Int32} : AW d 265 206 [x0, x1, x2, x3] ([.int v]) σ ρ g τ Q = Q (some (.int v)) σ ρ g τ := aw_ri m265 d265_206 rfl
theorem d265_207 : decode cX12_many 207 = .ok (.aload_n 0, 1) := by decide +kernel
theorem s265_207 {d : Nat} {st : List Value} {σ : am_I} {ρ : am_R} {g : am_J} {τ : am_T} {Q : am_Q} {x1 x2 x3 : Value} {v : Nat} : AW d 265 207 [.ref v, x1, x2, x3] (st) σ ρ g τ Q = AW d 265 208 [.ref v, x1, x2, x3] (.ref v :: st) σ ρ g τ Q := aw_lc m265 d265_207 rfl rfl rfl
theorem d265_208 : decode cX12_many 208 = .ok (.getfield 242, 3) := by decide +kernel
theorem s265_208 {d : Nat} {st : List Value} {σ : am_I} {ρ : am_R} {g : am_J} {τ : am_T} {Q : am_Q} {x0 x1 x2 x3 : Value} {a : Nat} (ht : τ.1 a = 12) : AW d 265 208 [x0, x1, x2, x3] (.ref a :: st) σ ρ g τ Q = AW d 265 211 [x0, x1, x2, x3] (.int (σ a 44) :: st) σ ρ g τ Q := aw_gi m265 d265_208 rfl rfl rfl ht
theorem d265_211 : decode cX12_many 211 = .ok (.ireturn, 1) := by decide +kernel
theorem s265_211 {d : Nat} {σ : am_I} {ρ : am_R} {g : am_J} {τ : am_T} {Q : am_Q} {x0 x1 x2 x3 : Value} {v : Int32} : AW d 265 211 [x0, x1, x2, x3] ([.int v]) σ ρ g τ Q = Q (some (.int v)) σ ρ g τ := aw_ri m265 d265_211 rfl
theorem d265_212 : decode cX12_many 212 = .ok (.aload_n 0, 1) := by decide +kernel
theorem s265_212 {d : Nat} {st : List Value} {σ : am_I} {ρ : am_R} {g : am_J} {τ : am_T} {Q : am_Q} {x1 x2 x3 : Value} {v : Nat} : AW d 265 212 [.ref v, x1, x2, x3] (st) σ ρ g τ Q = AW d 265 213 [.ref v, x1, x2, x3] (.ref v :: st) σ ρ g τ Q := aw_lc m265 d265_212 rfl rfl rfl
theorem d265_213 : decode cX12_many 213 = .ok (.getfield 450, 3) := by decide +kernel
theorem s265_213 {d : Nat} {st : List Value} {σ : am_I} {ρ : am_R} {g : am_J} {τ : am_T} {Q : am_Q} {x0 x1 x2 x3 : Value} {a : Nat} (ht : τ.1 a = 12) : AW d 265 213 [x0, x1, x2, x3] (.ref a :: st) σ ρ g τ Q = AW d 265 216 [x0, x1, x2, x3] (.int (σ a 55) :: st) σ ρ g τ Q := aw_gi m265 d265_213 rfl rfl rfl ht
theorem d265_216 : decode cX12_many 216 = .ok (.ireturn, 1) := by decide +kernel
theorem s265_216 {d : Nat} {σ : am_I} {ρ : am_R} {g : am_J} {τ : am_T} {Q : am_Q} {x0 x1 x2 x3 : Value} {v : Int32} : AW d 265 216 [x0, x1, x2, x3] ([.int v]) σ ρ g τ Q = Q (some (.int v)) σ ρ g τ := aw_ri m265 d265_216 rfl
theorem d265_217 : decode cX12_many 217 = .ok (.iconst 0, 1) := by decide +kernel
theorem s265_217 {d : Nat} {st : List Value} {σ : am_I} {ρ : am_R} {g : am_J} {τ : am_T} {Q : am_Q} {x0 x1 x2 x3 : Value} : AW d 265 217 [x0, x1, x2, x3] (st) σ ρ g τ Q = AW d 265 218 [x0, x1, x2, x3] (.int 0 :: st) σ ρ g τ Q := aw_lc m265 d265_217 rfl rfl rfl
theorem d265_218 : decode cX12_many 218 = .ok (.istore_n 3, 1) := by decide +kernel
theorem s265_218 {d : Nat} {st : List Value} {σ : am_I} {ρ : am_R} {g : am_J} {τ : am_T} {Q : am_Q} {x0 x1 x3 : Value} {v : Int32} {u : Int32} : AW d 265 218 [x0, x1, .int u, x3] (.int v :: st) σ ρ g τ Q = AW d 265 219 [x0, x1, .int u, .int v] (st) σ ρ g τ Q := aw_lc m265 d265_218 rfl rfl rfl
theorem d265_219 : decode cX12_many 219 = .ok (.iload_n 3, 1) := by decide +kernel
theorem s265_219 {d : Nat} {st : List Value} {σ : am_I} {ρ : am_R} {g : am_J} {τ : am_T} {Q : am_Q} {x0 x1 x2 : Value} {v : Int32} : AW d 265 219 [x0, x1, x2, .int v] (st) σ ρ g τ Q = AW d 265 220 [x0, x1, x2, .int v] (.int v :: st) σ ρ g τ Q := aw_lc m265 d265_219 rfl rfl rfl
theorem d265_220 : decode cX12_many 220 = .ok (.aload_n 0, 1) := by decide +kernel
theorem s265_220 {d : Nat} {st : List Value} {σ : am_I} {ρ : am_R} {g : am_J} {τ : am_T} {Q : am_Q} {x1 x2 x3 : Value} {v : Nat} : AW d 265 220 [.ref v, x1, x2, x3] (st) σ ρ g τ Q = AW d 265 221 [.ref v, x1, x2, x3] (.ref v :: st) σ ρ g τ Q := aw_lc m265 d265_220 rfl rfl rfl
theorem d265_221 : decode cX12_many 221 = .ok (.getfield 9, 3) := by decide +kernel
theorem s265_221 {d : Nat} {st : List Value} {σ : am_I} {ρ : am_R} {g : am_J} {τ : am_T} {Q : am_Q} {x0 x1 x2 x3 : Value} {a : Nat} (ht : τ.1 a = 12) : AW d 265 221 [x0, x1, x2, x3] (.ref a :: st) σ ρ g τ Q = AW d 265 224 [x0, x1, x2, x3] (va_rf (ρ a 0) :: st) σ ρ g τ Q := aw_gr m265 d265_221 rfl rfl rfl ht
theorem d265_224 : decode cX12_many 224 = .ok (.iconst 2, 1) := by decide +kernel
theorem s265_224 {d : Nat} {st : List Value} {σ : am_I} {ρ : am_R} {g : am_J} {τ : am_T} {Q : am_Q} {x0 x1 x2 x3 : Value} : AW d 265 224 [x0, x1, x2, x3] (st) σ ρ g τ Q = AW d 265 225 [x0, x1, x2, x3] (.int 2 :: st) σ ρ g τ Q := aw_lc m265 d265_224 rfl rfl rfl
theorem d265_225 : decode cX12_many 225 = .ok (.iaload, 1) := by decide +kernel
theorem s265_225 {d : Nat} {st : List Value} {σ : am_I} {ρ : am_R} {g : am_J} {τ : am_T} {Q : am_Q} {x0 x1 x2 x3 : Value} {a : Nat} {j : Int32} (ht : τ.1 a = 15) (hj : am_inb j (τ.2.1 a) = true) : AW d 265 225 [x0, x1, x2, x3] (.int j :: .ref a :: st) σ ρ g τ Q = AW d 265 226 [x0, x1, x2, x3] (.int (σ a j.toNatClampNeg) :: st) σ ρ g τ Q := aw_ial m265 d265_225 rfl ht hj
theorem d265_226 : decode cX12_many 226 = .ok (.if_icmp .ge 18, 3) := by decide +kernel
theorem s265_226 {d : Nat} {st : List Value} {σ : am_I} {ρ : am_R} {g : am_J} {τ : am_T} {Q : am_Q} {x0 x1 x2 x3 : Value} {v w : Int32} : AW d 265 226 [x0, x1, x2, x3] (.int w :: .int v :: st) σ ρ g τ Q = if w ≤ v then AW d 265 244 [x0, x1, x2, x3] (st) σ ρ g τ Q else AW d 265 229 [x0, x1, x2, x3] (st) σ ρ g τ Q := aw_br m265 d265_226 rfl rfl rfl
theorem d265_229 : decode cX12_many 229 = .ok (.iload_n 2, 1) := by decide +kernel
theorem s265_229 {d : Nat} {st : List Value} {σ : am_I} {ρ : am_R} {g : am_J} {τ : am_T} {Q : am_Q} {x0 x1 x3 : Value} {v : Int32} : AW d 265 229 [x0, x1, .int v, x3] (st) σ ρ g τ Q = AW d 265 230 [x0, x1, .int v, x3] (.int v :: st) σ ρ g τ Q := aw_lc m265 d265_229 rfl rfl rfl
theorem d265_230 : decode cX12_many 230 = .ok (.aload_n 0, 1) := by decide +kernel
theorem s265_230 {d : Nat} {st : List Value} {σ : am_I} {ρ : am_R} {g : am_J} {τ : am_T} {Q : am_Q} {x1 x2 x3 : Value} {v : Nat} : AW d 265 230 [.ref v, x1, x2, x3] (st) σ ρ g τ Q = AW d 265 231 [.ref v, x1, x2, x3] (.ref v :: st) σ ρ g τ Q := aw_lc m265 d265_230 rfl rfl rfl
theorem d265_231 : decode cX12_many 231 = .ok (.getfield 55, 3) := by decide +kernel
theorem s265_231 {d : Nat} {st : List Value} {σ : am_I} {ρ : am_R} {g : am_J} {τ : am_T} {Q : am_Q} {x0 x1 x2 x3 : Value} {a : Nat} (ht : τ.1 a = 12) : AW d 265 231 [x0, x1, x2, x3] (.ref a :: st) σ ρ g τ Q = AW d 265 234 [x0, x1, x2, x3] (va_rf (ρ a 15) :: st) σ ρ g τ Q := aw_gr m265 d265_231 rfl rfl rfl ht
theorem d265_234 : decode cX12_many 234 = .ok (.iload_n 3, 1) := by decide +kernel
theorem s265_234 {d : Nat} {st : List Value} {σ : am_I} {ρ : am_R} {g : am_J} {τ : am_T} {Q : am_Q} {x0 x1 x2 : Value} {v : Int32} : AW d 265 234 [x0, x1, x2, .int v] (st) σ ρ g τ Q = AW d 265 235 [x0, x1, x2, .int v] (.int v :: st) σ ρ g τ Q := aw_lc m265 d265_234 rfl rfl rfl
theorem d265_235 : decode cX12_many 235 = .ok (.iaload, 1) := by decide +kernel
theorem s265_235 {d : Nat} {st : List Value} {σ : am_I} {ρ : am_R} {g : am_J} {τ : am_T} {Q : am_Q} {x0 x1 x2 x3 : Value} {a : Nat} {j : Int32} (ht : τ.1 a = 15) (hj : am_inb j (τ.2.1 a) = true) : AW d 265 235 [x0, x1, x2, x3] (.int j :: .ref a :: st) σ ρ g τ Q = AW d 265 236 [x0, x1, x2, x3] (.int (σ a j.toNatClampNeg) :: st) σ ρ g τ Q := aw_ial m265 d265_235 rfl ht hj
theorem d265_236 : decode cX12_many 236 = .ok (.iadd, 1) := by decide +kernel
theorem s265_236 {d : Nat} {st : List Value} {σ : am_I} {ρ : am_R} {g : am_J} {τ : am_T} {Q : am_Q} {x0 x1 x2 x3 : Value} {v w : Int32} : AW d 265 236 [x0, x1, x2, x3] (.int w :: .int v :: st) σ ρ g τ Q = AW d 265 237 [x0, x1, x2, x3] (.int (v + w) :: st) σ ρ g τ Q := aw_lc m265 d265_236 rfl rfl rfl
theorem d265_237 : decode cX12_many 237 = .ok (.istore_n 2, 1) := by decide +kernel
theorem s265_237 {d : Nat} {st : List Value} {σ : am_I} {ρ : am_R} {g : am_J} {τ : am_T} {Q : am_Q} {x0 x2 x3 : Value} {v : Int32} {u : Int32} : AW d 265 237 [x0, .int u, x2, x3] (.int v :: st) σ ρ g τ Q = AW d 265 238 [x0, .int u, .int v, x3] (st) σ ρ g τ Q := aw_lc m265 d265_237 rfl rfl rfl
theorem d265_238 : decode cX12_many 238 = .ok (.iinc 3 1, 3) := by decide +kernel
theorem s265_238 {d : Nat} {st : List Value} {σ : am_I} {ρ : am_R} {g : am_J} {τ : am_T} {Q : am_Q} {x0 x1 : Value} {v : Int32} {u : Int32} : AW d 265 238 [x0, x1, .int u, .int v] (st) σ ρ g τ Q = AW d 265 241 [x0, x1, .int u, .int (v + 1)] (st) σ ρ g τ Q := aw_lc m265 d265_238 rfl rfl rfl
theorem d265_241 : decode cX12_many 241 = .ok (.goto (-22), 3) := by decide +kernel
theorem s265_241 {d : Nat} {st : List Value} {σ : am_I} {ρ : am_R} {g : am_J} {τ : am_T} {Q : am_Q} {x0 x1 x2 x3 : Value} : AW d 265 241 [x0, x1, x2, x3] (st) σ ρ g τ Q = AW d 265 219 [x0, x1, x2, x3] (st) σ ρ g τ Q := aw_lc m265 d265_241 rfl rfl rfl
theorem d265_244 : decode cX12_many 244 = .ok (.iload_n 2, 1) := by decide +kernel
theorem s265_244 {d : Nat} {st : List Value} {σ : am_I} {ρ : am_R} {g : am_J} {τ : am_T} {Q : am_Q} {x0 x1 x3 : Value} {v : Int32} : AW d 265 244 [x0, x1, .int v, x3] (st) σ ρ g τ Q = AW d 265 245 [x0, x1, .int v, x3] (.int v :: st) σ ρ g τ Q := aw_lc m265 d265_244 rfl rfl rfl
theorem d265_245 : decode cX12_many 245 = .ok (.ireturn, 1) := by decide +kernel
theorem s265_245 {d : Nat} {σ : am_I} {ρ : am_R} {g : am_J} {τ : am_T} {Q : am_Q} {x0 x1 x2 x3 : Value} {v : Int32} : AW d 265 245 [x0, x1, x2, x3] ([.int v]) σ ρ g τ Q = Q (some (.int v)) σ ρ g τ := aw_ri m265 d265_245 rfl
theorem d265_246 : decode cX12_many 246 = .ok (.iconst (-1), 1) := by decide +kernel
theorem s265_246 {d : Nat} {st : List Value} {σ : am_I} {ρ : am_R} {g : am_J} {τ : am_T} {Q : am_Q} {x0 x1 x2 x3 : Value} : AW d 265 246 [x0, x1, x2, x3] (st) σ ρ g τ Q = AW d 265 247 [x0, x1, x2, x3] (.int (-1) :: st) σ ρ g τ Q := aw_lc m265 d265_246 rfl rfl rfl
theorem d265_247 : decode cX12_many 247 = .ok (.ireturn, 1) := by decide +kernel
theorem s265_247 {d : Nat} {σ : am_I} {ρ : am_R} {g : am_J} {τ : am_T} {Q : am_Q} {x0 x1 x2 x3 : Value} {v : Int32} : AW d 265 247 [x0, x1, x2, x3] ([.int v]) σ ρ g τ Q = Q (some (.int v)) σ ρ g τ := aw_ri m265 d265_247 rfl
theorem d266_0 : decode cX12_copied 0 = .ok (.iconst 0, 1) := by decide +kernel
theorem s266_0 {d : Nat} {st : List Value} {σ : am_I} {ρ : am_R} {g : am_J} {τ : am_T} {Q : am_Q} {x0 x1 x2 x3 : Value} : AW d 266 0 [x0, x1, x2, x3] (st) σ ρ g τ Q = AW d 266 1 [x0, x1, x2, x3] (.int 0 :: st) σ ρ g τ Q := aw_lc m266 d266_0 rfl rfl rfl
theorem d266_1 : decode cX12_copied 1 = .ok (.istore_n 2, 1) := by decide +kernel
theorem s266_1r {d : Nat} {st : List Value} {σ : am_I} {ρ : am_R} {g : am_J} {τ : am_T} {Q : am_Q} {x0 x2 x3 : Value} {v : Int32} {u : Nat} : AW d 266 1 [x0, .ref u, x2, x3] (.int v :: st) σ ρ g τ Q = AW d 266 2 [x0, .ref u, .int v, x3] (st) σ ρ g τ Q := aw_lc m266 d266_1 rfl rfl rfl
theorem d266_2 : decode cX12_copied 2 = .ok (.iload_n 2, 1) := by decide +kernel
theorem s266_2 {d : Nat} {st : List Value} {σ : am_I} {ρ : am_R} {g : am_J} {τ : am_T} {Q : am_Q} {x0 x1 x3 : Value} {v : Int32} : AW d 266 2 [x0, x1, .int v, x3] (st) σ ρ g τ Q = AW d 266 3 [x0, x1, .int v, x3] (.int v :: st) σ ρ g τ Q := aw_lc m266 d266_2 rfl rfl rfl
theorem d266_3 : decode cX12_copied 3 = .ok (.bipush 40, 2) := by decide +kernel
theorem s266_3 {d : Nat} {st : List Value} {σ : am_I} {ρ : am_R} {g : am_J} {τ : am_T} {Q : am_Q} {x0 x1 x2 x3 : Value} : AW d 266 3 [x0, x1, x2, x3] (st) σ ρ g τ Q = AW d 266 5 [x0, x1, x2, x3] (.int 40 :: st) σ ρ g τ Q := aw_lc m266 d266_3 rfl rfl rfl
theorem d266_5 : decode cX12_copied 5 = .ok (.if_icmp .ge 35, 3) := by decide +kernel
theorem s266_5 {d : Nat} {st : List Value} {σ : am_I} {ρ : am_R} {g : am_J} {τ : am_T} {Q : am_Q} {x0 x1 x2 x3 : Value} {v w : Int32} : AW d 266 5 [x0, x1, x2, x3] (.int w :: .int v :: st) σ ρ g τ Q = if w ≤ v then AW d 266 40 [x0, x1, x2, x3] (st) σ ρ g τ Q else AW d 266 8 [x0, x1, x2, x3] (st) σ ρ g τ Q := aw_br m266 d266_5 rfl rfl rfl
theorem d266_8 : decode cX12_copied 8 = .ok (.iconst 0, 1) := by decide +kernel
theorem s266_8 {d : Nat} {st : List Value} {σ : am_I} {ρ : am_R} {g : am_J} {τ : am_T} {Q : am_Q} {x0 x1 x2 x3 : Value} : AW d 266 8 [x0, x1, x2, x3] (st) σ ρ g τ Q = AW d 266 9 [x0, x1, x2, x3] (.int 0 :: st) σ ρ g τ Q := aw_lc m266 d266_8 rfl rfl rfl
theorem d266_9 : decode cX12_copied 9 = .ok (.istore_n 3, 1) := by decide +kernel
theorem s266_9 {d : Nat} {st : List Value} {σ : am_I} {ρ : am_R} {g : am_J} {τ : am_T} {Q : am_Q} {x0 x1 x3 : Value} {v : Int32} {u : Int32} : AW d 266 9 [x0, x1, .int u, x3] (.int v :: st) σ ρ g τ Q = AW d 266 10 [x0, x1, .int u, .int v] (st) σ ρ g τ Q := aw_lc m266 d266_9 rfl rfl rfl
theorem d266_10 : decode cX12_copied 10 = .ok (.iload_n 3, 1) := by decide +kernel
theorem s266_10 {d : Nat} {st : List Value} {σ : am_I} {ρ : am_R} {g : am_J} {τ : am_T} {Q : am_Q} {x0 x1 x2 : Value} {v : Int32} : AW d 266 10 [x0, x1, x2, .int v] (st) σ ρ g τ Q = AW d 266 11 [x0, x1, x2, .int v] (.int v :: st) σ ρ g τ Q := aw_lc m266 d266_10 rfl rfl rfl
theorem d266_11 : decode cX12_copied 11 = .ok (.aload_n 0, 1) := by decide +kernel
theorem s266_11 {d : Nat} {st : List Value} {σ : am_I} {ρ : am_R} {g : am_J} {τ : am_T} {Q : am_Q} {x1 x2 x3 : Value} {v : Nat} : AW d 266 11 [.ref v, x1, x2, x3] (st) σ ρ g τ Q = AW d 266 12 [.ref v, x1, x2, x3] (.ref v :: st) σ ρ g τ Q := aw_lc m266 d266_11 rfl rfl rfl
theorem d266_12 : decode cX12_copied 12 = .ok (.iload_n 2, 1) := by decide +kernel
theorem s266_12 {d : Nat} {st : List Value} {σ : am_I} {ρ : am_R} {g : am_J} {τ : am_T} {Q : am_Q} {x0 x1 x3 : Value} {v : Int32} : AW d 266 12 [x0, x1, .int v, x3] (st) σ ρ g τ Q = AW d 266 13 [x0, x1, .int v, x3] (.int v :: st) σ ρ g τ Q := aw_lc m266 d266_12 rfl rfl rfl
theorem d266_13 : decode cX12_copied 13 = .ok (.aaload, 1) := by decide +kernel
theorem s266_13 {d : Nat} {st : List Value} {σ : am_I} {ρ : am_R} {g : am_J} {τ : am_T} {Q : am_Q} {x0 x1 x2 x3 : Value} {a : Nat} {j : Int32} (ht : 18 ≤ τ.1 a ∧ τ.1 a ≤ 22) (hj : am_inb j (τ.2.1 a) = true) : AW d 266 13 [x0, x1, x2, x3] (.int j :: .ref a :: st) σ ρ g τ Q = AW d 266 14 [x0, x1, x2, x3] (va_rf (ρ a j.toNatClampNeg) :: st) σ ρ g τ Q := aw_aal m266 d266_13 rfl ht hj
theorem d266_14 : decode cX12_copied 14 = .ok (.arraylength, 1) := by decide +kernel
theorem s266_14 {d : Nat} {st : List Value} {σ : am_I} {ρ : am_R} {g : am_J} {τ : am_T} {Q : am_Q} {x0 x1 x2 x3 : Value} {a : Nat} (ht : 14 ≤ τ.1 a ∧ τ.1 a ≤ 22) : AW d 266 14 [x0, x1, x2, x3] (.ref a :: st) σ ρ g τ Q = AW d 266 15 [x0, x1, x2, x3] (.int (nI (τ.2.1 a)) :: st) σ ρ g τ Q := aw_len m266 d266_14 rfl ht
theorem d266_15 : decode cX12_copied 15 = .ok (.if_icmp .ge 19, 3) := by decide +kernel
theorem s266_15 {d : Nat} {st : List Value} {σ : am_I} {ρ : am_R} {g : am_J} {τ : am_T} {Q : am_Q} {x0 x1 x2 x3 : Value} {v w : Int32} : AW d 266 15 [x0, x1, x2, x3] (.int w :: .int v :: st) σ ρ g τ Q = if w ≤ v then AW d 266 34 [x0, x1, x2, x3] (st) σ ρ g τ Q else AW d 266 18 [x0, x1, x2, x3] (st) σ ρ g τ Q := aw_br m266 d266_15 rfl rfl rfl
theorem d266_18 : decode cX12_copied 18 = .ok (.aload_n 1, 1) := by decide +kernel
theorem s266_18 {d : Nat} {st : List Value} {σ : am_I} {ρ : am_R} {g : am_J} {τ : am_T} {Q : am_Q} {x0 x2 x3 : Value} {v : Nat} : AW d 266 18 [x0, .ref v, x2, x3] (st) σ ρ g τ Q = AW d 266 19 [x0, .ref v, x2, x3] (.ref v :: st) σ ρ g τ Q := aw_lc m266 d266_18 rfl rfl rfl
theorem d266_19 : decode cX12_copied 19 = .ok (.iload_n 2, 1) := by decide +kernel
theorem s266_19 {d : Nat} {st : List Value} {σ : am_I} {ρ : am_R} {g : am_J} {τ : am_T} {Q : am_Q} {x0 x1 x3 : Value} {v : Int32} : AW d 266 19 [x0, x1, .int v, x3] (st) σ ρ g τ Q = AW d 266 20 [x0, x1, .int v, x3] (.int v :: st) σ ρ g τ Q := aw_lc m266 d266_19 rfl rfl rfl
theorem d266_20 : decode cX12_copied 20 = .ok (.aaload, 1) := by decide +kernel
theorem s266_20 {d : Nat} {st : List Value} {σ : am_I} {ρ : am_R} {g : am_J} {τ : am_T} {Q : am_Q} {x0 x1 x2 x3 : Value} {a : Nat} {j : Int32} (ht : 18 ≤ τ.1 a ∧ τ.1 a ≤ 22) (hj : am_inb j (τ.2.1 a) = true) : AW d 266 20 [x0, x1, x2, x3] (.int j :: .ref a :: st) σ ρ g τ Q = AW d 266 21 [x0, x1, x2, x3] (va_rf (ρ a j.toNatClampNeg) :: st) σ ρ g τ Q := aw_aal m266 d266_20 rfl ht hj
theorem d266_21 : decode cX12_copied 21 = .ok (.iload_n 3, 1) := by decide +kernel
theorem s266_21 {d : Nat} {st : List Value} {σ : am_I} {ρ : am_R} {g : am_J} {τ : am_T} {Q : am_Q} {x0 x1 x2 : Value} {v : Int32} : AW d 266 21 [x0, x1, x2, .int v] (st) σ ρ g τ Q = AW d 266 22 [x0, x1, x2, .int v] (.int v :: st) σ ρ g τ Q := aw_lc m266 d266_21 rfl rfl rfl
theorem d266_22 : decode cX12_copied 22 = .ok (.aload_n 0, 1) := by decide +kernel
theorem s266_22 {d : Nat} {st : List Value} {σ : am_I} {ρ : am_R} {g : am_J} {τ : am_T} {Q : am_Q} {x1 x2 x3 : Value} {v : Nat} : AW d 266 22 [.ref v, x1, x2, x3] (st) σ ρ g τ Q = AW d 266 23 [.ref v, x1, x2, x3] (.ref v :: st) σ ρ g τ Q := aw_lc m266 d266_22 rfl rfl rfl
theorem d266_23 : decode cX12_copied 23 = .ok (.iload_n 2, 1) := by decide +kernel
theorem s266_23 {d : Nat} {st : List Value} {σ : am_I} {ρ : am_R} {g : am_J} {τ : am_T} {Q : am_Q} {x0 x1 x3 : Value} {v : Int32} : AW d 266 23 [x0, x1, .int v, x3] (st) σ ρ g τ Q = AW d 266 24 [x0, x1, .int v, x3] (.int v :: st) σ ρ g τ Q := aw_lc m266 d266_23 rfl rfl rfl
theorem d266_24 : decode cX12_copied 24 = .ok (.aaload, 1) := by decide +kernel
theorem s266_24 {d : Nat} {st : List Value} {σ : am_I} {ρ : am_R} {g : am_J} {τ : am_T} {Q : am_Q} {x0 x1 x2 x3 : Value} {a : Nat} {j : Int32} (ht : 18 ≤ τ.1 a ∧ τ.1 a ≤ 22) (hj : am_inb j (τ.2.1 a) = true) : AW d 266 24 [x0, x1, x2, x3] (.int j :: .ref a :: st) σ ρ g τ Q = AW d 266 25 [x0, x1, x2, x3] (va_rf (ρ a j.toNatClampNeg) :: st) σ ρ g τ Q := aw_aal m266 d266_24 rfl ht hj
theorem d266_25 : decode cX12_copied 25 = .ok (.iload_n 3, 1) := by decide +kernel
theorem s266_25 {d : Nat} {st : List Value} {σ : am_I} {ρ : am_R} {g : am_J} {τ : am_T} {Q : am_Q} {x0 x1 x2 : Value} {v : Int32} : AW d 266 25 [x0, x1, x2, .int v] (st) σ ρ g τ Q = AW d 266 26 [x0, x1, x2, .int v] (.int v :: st) σ ρ g τ Q := aw_lc m266 d266_25 rfl rfl rfl
theorem d266_26 : decode cX12_copied 26 = .ok (.iaload, 1) := by decide +kernel
theorem s266_26 {d : Nat} {st : List Value} {σ : am_I} {ρ : am_R} {g : am_J} {τ : am_T} {Q : am_Q} {x0 x1 x2 x3 : Value} {a : Nat} {j : Int32} (ht : τ.1 a = 15) (hj : am_inb j (τ.2.1 a) = true) : AW d 266 26 [x0, x1, x2, x3] (.int j :: .ref a :: st) σ ρ g τ Q = AW d 266 27 [x0, x1, x2, x3] (.int (σ a j.toNatClampNeg) :: st) σ ρ g τ Q := aw_ial m266 d266_26 rfl ht hj
theorem d266_27 : decode cX12_copied 27 = .ok (.iastore, 1) := by decide +kernel
theorem s266_27 {d : Nat} {st : List Value} {σ : am_I} {ρ : am_R} {g : am_J} {τ : am_T} {Q : am_Q} {x0 x1 x2 x3 : Value} {a : Nat} {j v : Int32} (ht : τ.1 a = 15) (ha : a < am_BG) (hj : am_inb j (τ.2.1 a) = true) : AW d 266 27 [x0, x1, x2, x3] (.int v :: .int j :: .ref a :: st) σ ρ g τ Q = AW d 266 28 [x0, x1, x2, x3] (st) (am_u σ a j.toNatClampNeg v) ρ g τ Q := aw_ias m266 d266_27 rfl ht ha hj
theorem d266_28 : decode cX12_copied 28 = .ok (.iinc 3 1, 3) := by decide +kernel
theorem s266_28 {d : Nat} {st : List Value} {σ : am_I} {ρ : am_R} {g : am_J} {τ : am_T} {Q : am_Q} {x0 x1 : Value} {v : Int32} {u : Int32} : AW d 266 28 [x0, x1, .int u, .int v] (st) σ ρ g τ Q = AW d 266 31 [x0, x1, .int u, .int (v + 1)] (st) σ ρ g τ Q := aw_lc m266 d266_28 rfl rfl rfl
theorem d266_31 : decode cX12_copied 31 = .ok (.goto (-21), 3) := by decide +kernel
theorem s266_31 {d : Nat} {st : List Value} {σ : am_I} {ρ : am_R} {g : am_J} {τ : am_T} {Q : am_Q} {x0 x1 x2 x3 : Value} : AW d 266 31 [x0, x1, x2, x3] (st) σ ρ g τ Q = AW d 266 10 [x0, x1, x2, x3] (st) σ ρ g τ Q := aw_lc m266 d266_31 rfl rfl rfl
theorem d266_34 : decode cX12_copied 34 = .ok (.iinc 2 1, 3) := by decide +kernel
theorem s266_34r {d : Nat} {st : List Value} {σ : am_I} {ρ : am_R} {g : am_J} {τ : am_T} {Q : am_Q} {x0 x3 : Value} {v : Int32} {u : Nat} : AW d 266 34 [x0, .ref u, .int v, x3] (st) σ ρ g τ Q = AW d 266 37 [x0, .ref u, .int (v + 1), x3] (st) σ ρ g τ Q := aw_lc m266 d266_34 rfl rfl rfl
theorem d266_37 : decode cX12_copied 37 = .ok (.goto (-35), 3) := by decide +kernel
theorem s266_37 {d : Nat} {st : List Value} {σ : am_I} {ρ : am_R} {g : am_J} {τ : am_T} {Q : am_Q} {x0 x1 x2 x3 : Value} : AW d 266 37 [x0, x1, x2, x3] (st) σ ρ g τ Q = AW d 266 2 [x0, x1, x2, x3] (st) σ ρ g τ Q := aw_lc m266 d266_37 rfl rfl rfl
theorem d266_40 : decode cX12_copied 40 = .ok (.return_, 1) := by decide +kernel
theorem s266_40 {d : Nat} {σ : am_I} {ρ : am_R} {g : am_J} {τ : am_T} {Q : am_Q} {x0 x1 x2 x3 : Value} : AW d 266 40 [x0, x1, x2, x3] ([]) σ ρ g τ Q = Q none σ ρ g τ := aw_rv m266 d266_40 rfl
theorem d267_0 : decode cX12_keep 0 = .ok (.aload_n 0, 1) := by decide +kernel
theorem s267_0 {d : Nat} {st : List Value} {σ : am_I} {ρ : am_R} {g : am_J} {τ : am_T} {Q : am_Q} {v : Nat} : AW d 267 0 [.ref v] (st) σ ρ g τ Q = AW d 267 1 [.ref v] (.ref v :: st) σ ρ g τ Q := aw_lc m267 d267_0 rfl rfl rfl
theorem d267_1 : decode cX12_keep 1 = .ok (.getfield 131, 3) := by decide +kernel
theorem s267_1 {d : Nat} {st : List Value} {σ : am_I} {ρ : am_R} {g : am_J} {τ : am_T} {Q : am_Q} {x0 : Value} {a : Nat} (ht : τ.1 a = 12) : AW d 267 1 [x0] (.ref a :: st) σ ρ g τ Q = AW d 267 4 [x0] (va_rf (ρ a 40) :: st) σ ρ g τ Q := aw_gr m267 d267_1 rfl rfl rfl ht
theorem d267_4 : decode cX12_keep 4 = .ok (.aload_n 0, 1) := by decide +kernel
theorem s267_4 {d : Nat} {st : List Value} {σ : am_I} {ρ : am_R} {g : am_J} {τ : am_T} {Q : am_Q} {v : Nat} : AW d 267 4 [.ref v] (st) σ ρ g τ Q = AW d 267 5 [.ref v] (.ref v :: st) σ ρ g τ Q := aw_lc m267 d267_4 rfl rfl rfl
theorem d267_5 : decode cX12_keep 5 = .ok (.getfield 135, 3) := by decide +kernel
theorem s267_5 {d : Nat} {st : List Value} {σ : am_I} {ρ : am_R} {g : am_J} {τ : am_T} {Q : am_Q} {x0 : Value} {a : Nat} (ht : τ.1 a = 12) : AW d 267 5 [x0] (.ref a :: st) σ ρ g τ Q = AW d 267 8 [x0] (va_rf (ρ a 41) :: st) σ ρ g τ Q := aw_gr m267 d267_5 rfl rfl rfl ht
theorem d267_8 : decode cX12_keep 8 = .ok (.invokestatic 487, 3) := by decide +kernel
theorem s267_8 {d : Nat} {st : List Value} {σ : am_I} {ρ : am_R} {g : am_J} {τ : am_T} {Q : am_Q} {x0 : Value} {p0 : Nat} {p1 : Nat} (hs : st.length ≤ 4) : AW (d + 1) 267 8 [x0] (.ref p1 :: .ref p0 :: st) σ ρ g τ Q = AW d 266 0 [.ref p0, .ref p1, am_jk, am_jk] [] σ ρ g τ (fun r9 σ ρ g τ => AW (d + 1) 267 11 [x0] (r9.toList ++ st) σ ρ g τ Q) := aw_cs m267 d267_8 rfl (by simp only [List.length_cons]; omega) rfl rfl en266 ok266 rfl hs
theorem d267_11 : decode cX12_keep 11 = .ok (.aload_n 0, 1) := by decide +kernel
theorem s267_11 {d : Nat} {st : List Value} {σ : am_I} {ρ : am_R} {g : am_J} {τ : am_T} {Q : am_Q} {v : Nat} : AW d 267 11 [.ref v] (st) σ ρ g τ Q = AW d 267 12 [.ref v] (.ref v :: st) σ ρ g τ Q := aw_lc m267 d267_11 rfl rfl rfl
theorem d267_12 : decode cX12_keep 12 = .ok (.iconst 1, 1) := by decide +kernel
theorem s267_12 {d : Nat} {st : List Value} {σ : am_I} {ρ : am_R} {g : am_J} {τ : am_T} {Q : am_Q} {x0 : Value} : AW d 267 12 [x0] (st) σ ρ g τ Q = AW d 267 13 [x0] (.int 1 :: st) σ ρ g τ Q := aw_lc m267 d267_12 rfl rfl rfl
theorem d267_13 : decode cX12_keep 13 = .ok (.putfield 491, 3) := by decide +kernel
theorem s267_13 {d : Nat} {st : List Value} {σ : am_I} {ρ : am_R} {g : am_J} {τ : am_T} {Q : am_Q} {x0 : Value} {a : Nat} {v : Int32} (ht : τ.1 a = 12) (hv : am_b01 v = true) : AW d 267 13 [x0] (.int v :: .ref a :: st) σ ρ g τ Q = AW d 267 16 [x0] (st) (am_u σ a 42 v) ρ g τ Q := aw_pz m267 d267_13 rfl rfl (Or.inl rfl) rfl ht hv
theorem d267_16 : decode cX12_keep 16 = .ok (.iconst 1, 1) := by decide +kernel
theorem s267_16 {d : Nat} {st : List Value} {σ : am_I} {ρ : am_R} {g : am_J} {τ : am_T} {Q : am_Q} {x0 : Value} : AW d 267 16 [x0] (st) σ ρ g τ Q = AW d 267 17 [x0] (.int 1 :: st) σ ρ g τ Q := aw_lc m267 d267_16 rfl rfl rfl
theorem d267_17 : decode cX12_keep 17 = .ok (.ireturn, 1) := by decide +kernel
theorem s267_17 {d : Nat} {σ : am_I} {ρ : am_R} {g : am_J} {τ : am_T} {Q : am_Q} {x0 : Value} {v : Int32} : AW d 267 17 [x0] ([.int v]) σ ρ g τ Q = Q (some (.int v)) σ ρ g τ := aw_ri m267 d267_17 rfl
theorem d268_0 : decode cX12_again 0 = .ok (.aload_n 0, 1) := by decide +kernel
theorem s268_0 {d : Nat} {st : List Value} {σ : am_I} {ρ : am_R} {g : am_J} {τ : am_T} {Q : am_Q} {v : Nat} : AW d 268 0 [.ref v] (st) σ ρ g τ Q = AW d 268 1 [.ref v] (.ref v :: st) σ ρ g τ Q := aw_lc m268 d268_0 rfl rfl rfl
theorem d268_1 : decode cX12_again 1 = .ok (.getfield 491, 3) := by decide +kernel
theorem s268_1 {d : Nat} {st : List Value} {σ : am_I} {ρ : am_R} {g : am_J} {τ : am_T} {Q : am_Q} {x0 : Value} {a : Nat} (ht : τ.1 a = 12) : AW d 268 1 [x0] (.ref a :: st) σ ρ g τ Q = AW d 268 4 [x0] (.int (σ a 42) :: st) σ ρ g τ Q := aw_gi m268 d268_1 rfl rfl rfl ht
theorem d268_4 : decode cX12_again 4 = .ok (.ifCond .ne 6, 3) := by decide +kernel
theorem s268_4 {d : Nat} {st : List Value} {σ : am_I} {ρ : am_R} {g : am_J} {τ : am_T} {Q : am_Q} {x0 : Value} {v : Int32} : AW d 268 4 [x0] (.int v :: st) σ ρ g τ Q = if ¬ v = 0 then AW d 268 10 [x0] (st) σ ρ g τ Q else AW d 268 7 [x0] (st) σ ρ g τ Q := aw_br m268 d268_4 rfl rfl rfl
theorem d268_7 : decode cX12_again 7 = .ok (.bipush (-3), 2) := by decide +kernel
theorem s268_7 {d : Nat} {st : List Value} {σ : am_I} {ρ : am_R} {g : am_J} {τ : am_T} {Q : am_Q} {x0 : Value} : AW d 268 7 [x0] (st) σ ρ g τ Q = AW d 268 9 [x0] (.int (-3) :: st) σ ρ g τ Q := aw_lc m268 d268_7 rfl rfl rfl
theorem d268_9 : decode cX12_again 9 = .ok (.ireturn, 1) := by decide +kernel
theorem s268_9 {d : Nat} {σ : am_I} {ρ : am_R} {g : am_J} {τ : am_T} {Q : am_Q} {x0 : Value} {v : Int32} : AW d 268 9 [x0] ([.int v]) σ ρ g τ Q = Q (some (.int v)) σ ρ g τ := aw_ri m268 d268_9 rfl
theorem d268_10 : decode cX12_again 10 = .ok (.aload_n 0, 1) := by decide +kernel
theorem s268_10 {d : Nat} {st : List Value} {σ : am_I} {ρ : am_R} {g : am_J} {τ : am_T} {Q : am_Q} {v : Nat} : AW d 268 10 [.ref v] (st) σ ρ g τ Q = AW d 268 11 [.ref v] (.ref v :: st) σ ρ g τ Q := aw_lc m268 d268_10 rfl rfl rfl
theorem d268_11 : decode cX12_again 11 = .ok (.getfield 135, 3) := by decide +kernel
theorem s268_11 {d : Nat} {st : List Value} {σ : am_I} {ρ : am_R} {g : am_J} {τ : am_T} {Q : am_Q} {x0 : Value} {a : Nat} (ht : τ.1 a = 12) : AW d 268 11 [x0] (.ref a :: st) σ ρ g τ Q = AW d 268 14 [x0] (va_rf (ρ a 41) :: st) σ ρ g τ Q := aw_gr m268 d268_11 rfl rfl rfl ht
theorem d268_14 : decode cX12_again 14 = .ok (.aload_n 0, 1) := by decide +kernel
theorem s268_14 {d : Nat} {st : List Value} {σ : am_I} {ρ : am_R} {g : am_J} {τ : am_T} {Q : am_Q} {v : Nat} : AW d 268 14 [.ref v] (st) σ ρ g τ Q = AW d 268 15 [.ref v] (.ref v :: st) σ ρ g τ Q := aw_lc m268 d268_14 rfl rfl rfl
theorem d268_15 : decode cX12_again 15 = .ok (.getfield 131, 3) := by decide +kernel
theorem s268_15 {d : Nat} {st : List Value} {σ : am_I} {ρ : am_R} {g : am_J} {τ : am_T} {Q : am_Q} {x0 : Value} {a : Nat} (ht : τ.1 a = 12) : AW d 268 15 [x0] (.ref a :: st) σ ρ g τ Q = AW d 268 18 [x0] (va_rf (ρ a 40) :: st) σ ρ g τ Q := aw_gr m268 d268_15 rfl rfl rfl ht
theorem d268_18 : decode cX12_again 18 = .ok (.invokestatic 487, 3) := by decide +kernel
theorem s268_18 {d : Nat} {st : List Value} {σ : am_I} {ρ : am_R} {g : am_J} {τ : am_T} {Q : am_Q} {x0 : Value} {p0 : Nat} {p1 : Nat} (hs : st.length ≤ 4) : AW (d + 1) 268 18 [x0] (.ref p1 :: .ref p0 :: st) σ ρ g τ Q = AW d 266 0 [.ref p0, .ref p1, am_jk, am_jk] [] σ ρ g τ (fun r9 σ ρ g τ => AW (d + 1) 268 21 [x0] (r9.toList ++ st) σ ρ g τ Q) := aw_cs m268 d268_18 rfl (by simp only [List.length_cons]; omega) rfl rfl en266 ok266 rfl hs
theorem d268_21 : decode cX12_again 21 = .ok (.iconst 1, 1) := by decide +kernel
theorem s268_21 {d : Nat} {st : List Value} {σ : am_I} {ρ : am_R} {g : am_J} {τ : am_T} {Q : am_Q} {x0 : Value} : AW d 268 21 [x0] (st) σ ρ g τ Q = AW d 268 22 [x0] (.int 1 :: st) σ ρ g τ Q := aw_lc m268 d268_21 rfl rfl rfl
theorem d268_22 : decode cX12_again 22 = .ok (.ireturn, 1) := by decide +kernel
theorem s268_22 {d : Nat} {σ : am_I} {ρ : am_R} {g : am_J} {τ : am_T} {Q : am_Q} {x0 : Value} {v : Int32} : AW d 268 22 [x0] ([.int v]) σ ρ g τ Q = Q (some (.int v)) σ ρ g τ := aw_ri m268 d268_22 rfl
