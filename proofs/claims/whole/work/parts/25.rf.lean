/-! step rows: methods 131 to 163 -/
theorem d131_0 : decode cX11_lag 0 = .ok (.iload_n 1, 1) := by decide +kernel
theorem s131_0 {d : Nat} {st : List Value} {σ : am_I} {ρ : am_R} {g : am_J} {τ : am_T} {Q : am_Q} {x0 x2 x3 : Value} {v : Int32} : AW d 131 0 [x0, .int v, x2, x3] (st) σ ρ g τ Q = AW d 131 1 [x0, .int v, x2, x3] (.int v :: st) σ ρ g τ Q := aw_lc m131 d131_0 rfl rfl rfl
theorem d131_1 : decode cX11_lag 1 = .ok (.invokestatic 190, 3) := by decide +kernel
theorem s131_1 {d : Nat} {st : List Value} {σ : am_I} {ρ : am_R} {g : am_J} {τ : am_T} {Q : am_Q} {x0 x1 x2 x3 : Value} {p0 : Int32} (hs : st.length ≤ 4) : AW (d + 1) 131 1 [x0, x1, x2, x3] (.int p0 :: st) σ ρ g τ Q = AW d 103 0 [.int p0] [] σ ρ g τ (fun r9 σ ρ g τ => AW (d + 1) 131 4 [x0, x1, x2, x3] (r9.toList ++ st) σ ρ g τ Q) := aw_cs m131 d131_1 rfl (by simp only [List.length_cons]; omega) rfl rfl en103 ok103 rfl hs
theorem d131_4 : decode cX11_lag 4 = .ok (.ifCond .eq 13, 3) := by decide +kernel
theorem s131_4 {d : Nat} {st : List Value} {σ : am_I} {ρ : am_R} {g : am_J} {τ : am_T} {Q : am_Q} {x0 x1 x2 x3 : Value} {v : Int32} : AW d 131 4 [x0, x1, x2, x3] (.int v :: st) σ ρ g τ Q = if v = 0 then AW d 131 17 [x0, x1, x2, x3] (st) σ ρ g τ Q else AW d 131 7 [x0, x1, x2, x3] (st) σ ρ g τ Q := aw_br m131 d131_4 rfl rfl rfl
theorem d131_7 : decode cX11_lag 7 = .ok (.iload_n 2, 1) := by decide +kernel
theorem s131_7 {d : Nat} {st : List Value} {σ : am_I} {ρ : am_R} {g : am_J} {τ : am_T} {Q : am_Q} {x0 x1 x3 : Value} {v : Int32} : AW d 131 7 [x0, x1, .int v, x3] (st) σ ρ g τ Q = AW d 131 8 [x0, x1, .int v, x3] (.int v :: st) σ ρ g τ Q := aw_lc m131 d131_7 rfl rfl rfl
theorem d131_8 : decode cX11_lag 8 = .ok (.iconst 0, 1) := by decide +kernel
theorem s131_8 {d : Nat} {st : List Value} {σ : am_I} {ρ : am_R} {g : am_J} {τ : am_T} {Q : am_Q} {x0 x1 x2 x3 : Value} : AW d 131 8 [x0, x1, x2, x3] (st) σ ρ g τ Q = AW d 131 9 [x0, x1, x2, x3] (.int 0 :: st) σ ρ g τ Q := aw_lc m131 d131_8 rfl rfl rfl
theorem d131_9 : decode cX11_lag 9 = .ok (.bipush 6, 2) := by decide +kernel
theorem s131_9 {d : Nat} {st : List Value} {σ : am_I} {ρ : am_R} {g : am_J} {τ : am_T} {Q : am_Q} {x0 x1 x2 x3 : Value} : AW d 131 9 [x0, x1, x2, x3] (st) σ ρ g τ Q = AW d 131 11 [x0, x1, x2, x3] (.int 6 :: st) σ ρ g τ Q := aw_lc m131 d131_9 rfl rfl rfl
theorem d131_11 : decode cX11_lag 11 = .ok (.invokestatic 74, 3) := by decide +kernel
theorem s131_11 {d : Nat} {st : List Value} {σ : am_I} {ρ : am_R} {g : am_J} {τ : am_T} {Q : am_Q} {x0 x1 x2 x3 : Value} {p0 : Int32} {p1 : Int32} {p2 : Int32} (hs : st.length ≤ 4) : AW (d + 1) 131 11 [x0, x1, x2, x3] (.int p2 :: .int p1 :: .int p0 :: st) σ ρ g τ Q = AW d 100 0 [.int p0, .int p1, .int p2] [] σ ρ g τ (fun r9 σ ρ g τ => AW (d + 1) 131 14 [x0, x1, x2, x3] (r9.toList ++ st) σ ρ g τ Q) := aw_cs m131 d131_11 rfl (by simp only [List.length_cons]; omega) rfl rfl en100 ok100 rfl hs
theorem d131_14 : decode cX11_lag 14 = .ok (.ifCond .ne 5, 3) := by decide +kernel
theorem s131_14 {d : Nat} {st : List Value} {σ : am_I} {ρ : am_R} {g : am_J} {τ : am_T} {Q : am_Q} {x0 x1 x2 x3 : Value} {v : Int32} : AW d 131 14 [x0, x1, x2, x3] (.int v :: st) σ ρ g τ Q = if ¬ v = 0 then AW d 131 19 [x0, x1, x2, x3] (st) σ ρ g τ Q else AW d 131 17 [x0, x1, x2, x3] (st) σ ρ g τ Q := aw_br m131 d131_14 rfl rfl rfl
theorem d131_17 : decode cX11_lag 17 = .ok (.iconst (-1), 1) := by decide +kernel
theorem s131_17 {d : Nat} {st : List Value} {σ : am_I} {ρ : am_R} {g : am_J} {τ : am_T} {Q : am_Q} {x0 x1 x2 x3 : Value} : AW d 131 17 [x0, x1, x2, x3] (st) σ ρ g τ Q = AW d 131 18 [x0, x1, x2, x3] (.int (-1) :: st) σ ρ g τ Q := aw_lc m131 d131_17 rfl rfl rfl
theorem d131_18 : decode cX11_lag 18 = .ok (.ireturn, 1) := by decide +kernel
theorem s131_18 {d : Nat} {σ : am_I} {ρ : am_R} {g : am_J} {τ : am_T} {Q : am_Q} {x0 x1 x2 x3 : Value} {v : Int32} : AW d 131 18 [x0, x1, x2, x3] ([.int v]) σ ρ g τ Q = Q (some (.int v)) σ ρ g τ := aw_ri m131 d131_18 rfl
theorem d131_19 : decode cX11_lag 19 = .ok (.aload_n 0, 1) := by decide +kernel
theorem s131_19 {d : Nat} {st : List Value} {σ : am_I} {ρ : am_R} {g : am_J} {τ : am_T} {Q : am_Q} {x1 x2 x3 : Value} {v : Nat} : AW d 131 19 [.ref v, x1, x2, x3] (st) σ ρ g τ Q = AW d 131 20 [.ref v, x1, x2, x3] (.ref v :: st) σ ρ g τ Q := aw_lc m131 d131_19 rfl rfl rfl
theorem d131_20 : decode cX11_lag 20 = .ok (.getfield 10, 3) := by decide +kernel
theorem s131_20 {d : Nat} {st : List Value} {σ : am_I} {ρ : am_R} {g : am_J} {τ : am_T} {Q : am_Q} {x0 x1 x2 x3 : Value} {a : Nat} (ht : τ.1 a = 11) : AW d 131 20 [x0, x1, x2, x3] (.ref a :: st) σ ρ g τ Q = AW d 131 23 [x0, x1, x2, x3] (va_rf (ρ a 0) :: st) σ ρ g τ Q := aw_gr m131 d131_20 rfl rfl rfl ht
theorem d131_23 : decode cX11_lag 23 = .ok (.getfield 312, 3) := by decide +kernel
theorem s131_23 {d : Nat} {st : List Value} {σ : am_I} {ρ : am_R} {g : am_J} {τ : am_T} {Q : am_Q} {x0 x1 x2 x3 : Value} {a : Nat} (ht : τ.1 a = 3) : AW d 131 23 [x0, x1, x2, x3] (.ref a :: st) σ ρ g τ Q = AW d 131 26 [x0, x1, x2, x3] (va_rf (ρ a 4) :: st) σ ρ g τ Q := aw_gr m131 d131_23 rfl rfl rfl ht
theorem d131_26 : decode cX11_lag 26 = .ok (.iload_n 1, 1) := by decide +kernel
theorem s131_26 {d : Nat} {st : List Value} {σ : am_I} {ρ : am_R} {g : am_J} {τ : am_T} {Q : am_Q} {x0 x2 x3 : Value} {v : Int32} : AW d 131 26 [x0, .int v, x2, x3] (st) σ ρ g τ Q = AW d 131 27 [x0, .int v, x2, x3] (.int v :: st) σ ρ g τ Q := aw_lc m131 d131_26 rfl rfl rfl
theorem d131_27 : decode cX11_lag 27 = .ok (.iaload, 1) := by decide +kernel
theorem s131_27 {d : Nat} {st : List Value} {σ : am_I} {ρ : am_R} {g : am_J} {τ : am_T} {Q : am_Q} {x0 x1 x2 x3 : Value} {a : Nat} {j : Int32} (ht : τ.1 a = 15) (hj : am_inb j (τ.2.1 a) = true) : AW d 131 27 [x0, x1, x2, x3] (.int j :: .ref a :: st) σ ρ g τ Q = AW d 131 28 [x0, x1, x2, x3] (.int (σ a j.toNatClampNeg) :: st) σ ρ g τ Q := aw_ial m131 d131_27 rfl ht hj
theorem d131_28 : decode cX11_lag 28 = .ok (.istore_n 3, 1) := by decide +kernel
theorem s131_28 {d : Nat} {st : List Value} {σ : am_I} {ρ : am_R} {g : am_J} {τ : am_T} {Q : am_Q} {x0 x1 x3 : Value} {v : Int32} {u : Int32} : AW d 131 28 [x0, x1, .int u, x3] (.int v :: st) σ ρ g τ Q = AW d 131 29 [x0, x1, .int u, .int v] (st) σ ρ g τ Q := aw_lc m131 d131_28 rfl rfl rfl
theorem d131_29 : decode cX11_lag 29 = .ok (.aload_n 0, 1) := by decide +kernel
theorem s131_29 {d : Nat} {st : List Value} {σ : am_I} {ρ : am_R} {g : am_J} {τ : am_T} {Q : am_Q} {x1 x2 x3 : Value} {v : Nat} : AW d 131 29 [.ref v, x1, x2, x3] (st) σ ρ g τ Q = AW d 131 30 [.ref v, x1, x2, x3] (.ref v :: st) σ ρ g τ Q := aw_lc m131 d131_29 rfl rfl rfl
theorem d131_30 : decode cX11_lag 30 = .ok (.getfield 10, 3) := by decide +kernel
theorem s131_30 {d : Nat} {st : List Value} {σ : am_I} {ρ : am_R} {g : am_J} {τ : am_T} {Q : am_Q} {x0 x1 x2 x3 : Value} {a : Nat} (ht : τ.1 a = 11) : AW d 131 30 [x0, x1, x2, x3] (.ref a :: st) σ ρ g τ Q = AW d 131 33 [x0, x1, x2, x3] (va_rf (ρ a 0) :: st) σ ρ g τ Q := aw_gr m131 d131_30 rfl rfl rfl ht
theorem d131_33 : decode cX11_lag 33 = .ok (.getfield 312, 3) := by decide +kernel
theorem s131_33 {d : Nat} {st : List Value} {σ : am_I} {ρ : am_R} {g : am_J} {τ : am_T} {Q : am_Q} {x0 x1 x2 x3 : Value} {a : Nat} (ht : τ.1 a = 3) : AW d 131 33 [x0, x1, x2, x3] (.ref a :: st) σ ρ g τ Q = AW d 131 36 [x0, x1, x2, x3] (va_rf (ρ a 4) :: st) σ ρ g τ Q := aw_gr m131 d131_33 rfl rfl rfl ht
theorem d131_36 : decode cX11_lag 36 = .ok (.iload_n 1, 1) := by decide +kernel
theorem s131_36 {d : Nat} {st : List Value} {σ : am_I} {ρ : am_R} {g : am_J} {τ : am_T} {Q : am_Q} {x0 x2 x3 : Value} {v : Int32} : AW d 131 36 [x0, .int v, x2, x3] (st) σ ρ g τ Q = AW d 131 37 [x0, .int v, x2, x3] (.int v :: st) σ ρ g τ Q := aw_lc m131 d131_36 rfl rfl rfl
theorem d131_37 : decode cX11_lag 37 = .ok (.iload_n 2, 1) := by decide +kernel
theorem s131_37 {d : Nat} {st : List Value} {σ : am_I} {ρ : am_R} {g : am_J} {τ : am_T} {Q : am_Q} {x0 x1 x3 : Value} {v : Int32} : AW d 131 37 [x0, x1, .int v, x3] (st) σ ρ g τ Q = AW d 131 38 [x0, x1, .int v, x3] (.int v :: st) σ ρ g τ Q := aw_lc m131 d131_37 rfl rfl rfl
theorem d131_38 : decode cX11_lag 38 = .ok (.iastore, 1) := by decide +kernel
theorem s131_38 {d : Nat} {st : List Value} {σ : am_I} {ρ : am_R} {g : am_J} {τ : am_T} {Q : am_Q} {x0 x1 x2 x3 : Value} {a : Nat} {j v : Int32} (ht : τ.1 a = 15) (ha : a < am_BG) (hj : am_inb j (τ.2.1 a) = true) : AW d 131 38 [x0, x1, x2, x3] (.int v :: .int j :: .ref a :: st) σ ρ g τ Q = AW d 131 39 [x0, x1, x2, x3] (st) (am_u σ a j.toNatClampNeg v) ρ g τ Q := aw_ias m131 d131_38 rfl ht ha hj
theorem d131_39 : decode cX11_lag 39 = .ok (.iload_n 3, 1) := by decide +kernel
theorem s131_39 {d : Nat} {st : List Value} {σ : am_I} {ρ : am_R} {g : am_J} {τ : am_T} {Q : am_Q} {x0 x1 x2 : Value} {v : Int32} : AW d 131 39 [x0, x1, x2, .int v] (st) σ ρ g τ Q = AW d 131 40 [x0, x1, x2, .int v] (.int v :: st) σ ρ g τ Q := aw_lc m131 d131_39 rfl rfl rfl
theorem d131_40 : decode cX11_lag 40 = .ok (.ireturn, 1) := by decide +kernel
theorem s131_40 {d : Nat} {σ : am_I} {ρ : am_R} {g : am_J} {τ : am_T} {Q : am_Q} {x0 x1 x2 x3 : Value} {v : Int32} : AW d 131 40 [x0, x1, x2, x3] ([.int v]) σ ρ g τ Q = Q (some (.int v)) σ ρ g τ := aw_ri m131 d131_40 rfl
theorem d132_0 : decode cX11_knows 0 = .ok (.iload_n 1, 1) := by decide +kernel
theorem s132_0 {d : Nat} {st : List Value} {σ : am_I} {ρ : am_R} {g : am_J} {τ : am_T} {Q : am_Q} {x0 x2 : Value} {v : Int32} : AW d 132 0 [x0, .int v, x2] (st) σ ρ g τ Q = AW d 132 1 [x0, .int v, x2] (.int v :: st) σ ρ g τ Q := aw_lc m132 d132_0 rfl rfl rfl
theorem d132_1 : decode cX11_knows 1 = .ok (.invokestatic 190, 3) := by decide +kernel
theorem s132_1 {d : Nat} {st : List Value} {σ : am_I} {ρ : am_R} {g : am_J} {τ : am_T} {Q : am_Q} {x0 x1 x2 : Value} {p0 : Int32} (hs : st.length ≤ 4) : AW (d + 1) 132 1 [x0, x1, x2] (.int p0 :: st) σ ρ g τ Q = AW d 103 0 [.int p0] [] σ ρ g τ (fun r9 σ ρ g τ => AW (d + 1) 132 4 [x0, x1, x2] (r9.toList ++ st) σ ρ g τ Q) := aw_cs m132 d132_1 rfl (by simp only [List.length_cons]; omega) rfl rfl en103 ok103 rfl hs
theorem d132_4 : decode cX11_knows 4 = .ok (.ifCond .eq 14, 3) := by decide +kernel
theorem s132_4 {d : Nat} {st : List Value} {σ : am_I} {ρ : am_R} {g : am_J} {τ : am_T} {Q : am_Q} {x0 x1 x2 : Value} {v : Int32} : AW d 132 4 [x0, x1, x2] (.int v :: st) σ ρ g τ Q = if v = 0 then AW d 132 18 [x0, x1, x2] (st) σ ρ g τ Q else AW d 132 7 [x0, x1, x2] (st) σ ρ g τ Q := aw_br m132 d132_4 rfl rfl rfl
theorem d132_7 : decode cX11_knows 7 = .ok (.aload_n 0, 1) := by decide +kernel
theorem s132_7 {d : Nat} {st : List Value} {σ : am_I} {ρ : am_R} {g : am_J} {τ : am_T} {Q : am_Q} {x1 x2 : Value} {v : Nat} : AW d 132 7 [.ref v, x1, x2] (st) σ ρ g τ Q = AW d 132 8 [.ref v, x1, x2] (.ref v :: st) σ ρ g τ Q := aw_lc m132 d132_7 rfl rfl rfl
theorem d132_8 : decode cX11_knows 8 = .ok (.getfield 10, 3) := by decide +kernel
theorem s132_8 {d : Nat} {st : List Value} {σ : am_I} {ρ : am_R} {g : am_J} {τ : am_T} {Q : am_Q} {x0 x1 x2 : Value} {a : Nat} (ht : τ.1 a = 11) : AW d 132 8 [x0, x1, x2] (.ref a :: st) σ ρ g τ Q = AW d 132 11 [x0, x1, x2] (va_rf (ρ a 0) :: st) σ ρ g τ Q := aw_gr m132 d132_8 rfl rfl rfl ht
theorem d132_11 : decode cX11_knows 11 = .ok (.iload_n 2, 1) := by decide +kernel
theorem s132_11 {d : Nat} {st : List Value} {σ : am_I} {ρ : am_R} {g : am_J} {τ : am_T} {Q : am_Q} {x0 x1 : Value} {v : Int32} : AW d 132 11 [x0, x1, .int v] (st) σ ρ g τ Q = AW d 132 12 [x0, x1, .int v] (.int v :: st) σ ρ g τ Q := aw_lc m132 d132_11 rfl rfl rfl
theorem d132_12 : decode cX11_knows 12 = .ok (.invokevirtual 206, 3) := by decide +kernel
theorem s132_12 {d : Nat} {st : List Value} {σ : am_I} {ρ : am_R} {g : am_J} {τ : am_T} {Q : am_Q} {x0 x1 x2 : Value} {p0 : Nat} {p1 : Int32} (ht : τ.1 p0 = 3) (hs : st.length ≤ 4) : AW (d + 1) 132 12 [x0, x1, x2] (.int p1 :: .ref p0 :: st) σ ρ g τ Q = AW d 24 0 [.ref p0, .int p1] [] σ ρ g τ (fun r9 σ ρ g τ => AW (d + 1) 132 15 [x0, x1, x2] (r9.toList ++ st) σ ρ g τ Q) := aw_cv m132 d132_12 rfl m24 rfl rfl (by decide) en24 ok24 rfl ht hs
theorem d132_15 : decode cX11_knows 15 = .ok (.ifCond .ne 5, 3) := by decide +kernel
theorem s132_15 {d : Nat} {st : List Value} {σ : am_I} {ρ : am_R} {g : am_J} {τ : am_T} {Q : am_Q} {x0 x1 x2 : Value} {v : Int32} : AW d 132 15 [x0, x1, x2] (.int v :: st) σ ρ g τ Q = if ¬ v = 0 then AW d 132 20 [x0, x1, x2] (st) σ ρ g τ Q else AW d 132 18 [x0, x1, x2] (st) σ ρ g τ Q := aw_br m132 d132_15 rfl rfl rfl
theorem d132_18 : decode cX11_knows 18 = .ok (.iconst (-1), 1) := by decide +kernel
theorem s132_18 {d : Nat} {st : List Value} {σ : am_I} {ρ : am_R} {g : am_J} {τ : am_T} {Q : am_Q} {x0 x1 x2 : Value} : AW d 132 18 [x0, x1, x2] (st) σ ρ g τ Q = AW d 132 19 [x0, x1, x2] (.int (-1) :: st) σ ρ g τ Q := aw_lc m132 d132_18 rfl rfl rfl
theorem d132_19 : decode cX11_knows 19 = .ok (.ireturn, 1) := by decide +kernel
theorem s132_19 {d : Nat} {σ : am_I} {ρ : am_R} {g : am_J} {τ : am_T} {Q : am_Q} {x0 x1 x2 : Value} {v : Int32} : AW d 132 19 [x0, x1, x2] ([.int v]) σ ρ g τ Q = Q (some (.int v)) σ ρ g τ := aw_ri m132 d132_19 rfl
theorem d132_20 : decode cX11_knows 20 = .ok (.aload_n 0, 1) := by decide +kernel
theorem s132_20 {d : Nat} {st : List Value} {σ : am_I} {ρ : am_R} {g : am_J} {τ : am_T} {Q : am_Q} {x1 x2 : Value} {v : Nat} : AW d 132 20 [.ref v, x1, x2] (st) σ ρ g τ Q = AW d 132 21 [.ref v, x1, x2] (.ref v :: st) σ ρ g τ Q := aw_lc m132 d132_20 rfl rfl rfl
theorem d132_21 : decode cX11_knows 21 = .ok (.getfield 10, 3) := by decide +kernel
theorem s132_21 {d : Nat} {st : List Value} {σ : am_I} {ρ : am_R} {g : am_J} {τ : am_T} {Q : am_Q} {x0 x1 x2 : Value} {a : Nat} (ht : τ.1 a = 11) : AW d 132 21 [x0, x1, x2] (.ref a :: st) σ ρ g τ Q = AW d 132 24 [x0, x1, x2] (va_rf (ρ a 0) :: st) σ ρ g τ Q := aw_gr m132 d132_21 rfl rfl rfl ht
theorem d132_24 : decode cX11_knows 24 = .ok (.getfield 209, 3) := by decide +kernel
theorem s132_24 {d : Nat} {st : List Value} {σ : am_I} {ρ : am_R} {g : am_J} {τ : am_T} {Q : am_Q} {x0 x1 x2 : Value} {a : Nat} (ht : τ.1 a = 3) : AW d 132 24 [x0, x1, x2] (.ref a :: st) σ ρ g τ Q = AW d 132 27 [x0, x1, x2] (va_rf (ρ a 7) :: st) σ ρ g τ Q := aw_gr m132 d132_24 rfl rfl rfl ht
theorem d132_27 : decode cX11_knows 27 = .ok (.iload_n 2, 1) := by decide +kernel
theorem s132_27 {d : Nat} {st : List Value} {σ : am_I} {ρ : am_R} {g : am_J} {τ : am_T} {Q : am_Q} {x0 x1 : Value} {v : Int32} : AW d 132 27 [x0, x1, .int v] (st) σ ρ g τ Q = AW d 132 28 [x0, x1, .int v] (.int v :: st) σ ρ g τ Q := aw_lc m132 d132_27 rfl rfl rfl
theorem d132_28 : decode cX11_knows 28 = .ok (.aaload, 1) := by decide +kernel
theorem s132_28 {d : Nat} {st : List Value} {σ : am_I} {ρ : am_R} {g : am_J} {τ : am_T} {Q : am_Q} {x0 x1 x2 : Value} {a : Nat} {j : Int32} (ht : 18 ≤ τ.1 a ∧ τ.1 a ≤ 22) (hj : am_inb j (τ.2.1 a) = true) : AW d 132 28 [x0, x1, x2] (.int j :: .ref a :: st) σ ρ g τ Q = AW d 132 29 [x0, x1, x2] (va_rf (ρ a j.toNatClampNeg) :: st) σ ρ g τ Q := aw_aal m132 d132_28 rfl ht hj
theorem d132_29 : decode cX11_knows 29 = .ok (.getfield 217, 3) := by decide +kernel
theorem s132_29 {d : Nat} {st : List Value} {σ : am_I} {ρ : am_R} {g : am_J} {τ : am_T} {Q : am_Q} {x0 x1 x2 : Value} {a : Nat} (ht : τ.1 a = 1) : AW d 132 29 [x0, x1, x2] (.ref a :: st) σ ρ g τ Q = AW d 132 32 [x0, x1, x2] (.int (σ a 1) :: st) σ ρ g τ Q := aw_gi m132 d132_29 rfl rfl rfl ht
theorem d132_32 : decode cX11_knows 32 = .ok (.ifCond .ne 23, 3) := by decide +kernel
theorem s132_32 {d : Nat} {st : List Value} {σ : am_I} {ρ : am_R} {g : am_J} {τ : am_T} {Q : am_Q} {x0 x1 x2 : Value} {v : Int32} : AW d 132 32 [x0, x1, x2] (.int v :: st) σ ρ g τ Q = if ¬ v = 0 then AW d 132 55 [x0, x1, x2] (st) σ ρ g τ Q else AW d 132 35 [x0, x1, x2] (st) σ ρ g τ Q := aw_br m132 d132_32 rfl rfl rfl
theorem d132_35 : decode cX11_knows 35 = .ok (.aload_n 0, 1) := by decide +kernel
theorem s132_35 {d : Nat} {st : List Value} {σ : am_I} {ρ : am_R} {g : am_J} {τ : am_T} {Q : am_Q} {x1 x2 : Value} {v : Nat} : AW d 132 35 [.ref v, x1, x2] (st) σ ρ g τ Q = AW d 132 36 [.ref v, x1, x2] (.ref v :: st) σ ρ g τ Q := aw_lc m132 d132_35 rfl rfl rfl
theorem d132_36 : decode cX11_knows 36 = .ok (.getfield 10, 3) := by decide +kernel
theorem s132_36 {d : Nat} {st : List Value} {σ : am_I} {ρ : am_R} {g : am_J} {τ : am_T} {Q : am_Q} {x0 x1 x2 : Value} {a : Nat} (ht : τ.1 a = 11) : AW d 132 36 [x0, x1, x2] (.ref a :: st) σ ρ g τ Q = AW d 132 39 [x0, x1, x2] (va_rf (ρ a 0) :: st) σ ρ g τ Q := aw_gr m132 d132_36 rfl rfl rfl ht
theorem d132_39 : decode cX11_knows 39 = .ok (.iload_n 1, 1) := by decide +kernel
theorem s132_39 {d : Nat} {st : List Value} {σ : am_I} {ρ : am_R} {g : am_J} {τ : am_T} {Q : am_Q} {x0 x2 : Value} {v : Int32} : AW d 132 39 [x0, .int v, x2] (st) σ ρ g τ Q = AW d 132 40 [x0, .int v, x2] (.int v :: st) σ ρ g τ Q := aw_lc m132 d132_39 rfl rfl rfl
theorem d132_40 : decode cX11_knows 40 = .ok (.aload_n 0, 1) := by decide +kernel
theorem s132_40 {d : Nat} {st : List Value} {σ : am_I} {ρ : am_R} {g : am_J} {τ : am_T} {Q : am_Q} {x1 x2 : Value} {v : Nat} : AW d 132 40 [.ref v, x1, x2] (st) σ ρ g τ Q = AW d 132 41 [.ref v, x1, x2] (.ref v :: st) σ ρ g τ Q := aw_lc m132 d132_40 rfl rfl rfl
theorem d132_41 : decode cX11_knows 41 = .ok (.getfield 10, 3) := by decide +kernel
theorem s132_41 {d : Nat} {st : List Value} {σ : am_I} {ρ : am_R} {g : am_J} {τ : am_T} {Q : am_Q} {x0 x1 x2 : Value} {a : Nat} (ht : τ.1 a = 11) : AW d 132 41 [x0, x1, x2] (.ref a :: st) σ ρ g τ Q = AW d 132 44 [x0, x1, x2] (va_rf (ρ a 0) :: st) σ ρ g τ Q := aw_gr m132 d132_41 rfl rfl rfl ht
theorem d132_44 : decode cX11_knows 44 = .ok (.getfield 209, 3) := by decide +kernel
theorem s132_44 {d : Nat} {st : List Value} {σ : am_I} {ρ : am_R} {g : am_J} {τ : am_T} {Q : am_Q} {x0 x1 x2 : Value} {a : Nat} (ht : τ.1 a = 3) : AW d 132 44 [x0, x1, x2] (.ref a :: st) σ ρ g τ Q = AW d 132 47 [x0, x1, x2] (va_rf (ρ a 7) :: st) σ ρ g τ Q := aw_gr m132 d132_44 rfl rfl rfl ht
theorem d132_47 : decode cX11_knows 47 = .ok (.iload_n 2, 1) := by decide +kernel
theorem s132_47 {d : Nat} {st : List Value} {σ : am_I} {ρ : am_R} {g : am_J} {τ : am_T} {Q : am_Q} {x0 x1 : Value} {v : Int32} : AW d 132 47 [x0, x1, .int v] (st) σ ρ g τ Q = AW d 132 48 [x0, x1, .int v] (.int v :: st) σ ρ g τ Q := aw_lc m132 d132_47 rfl rfl rfl
theorem d132_48 : decode cX11_knows 48 = .ok (.aaload, 1) := by decide +kernel
theorem s132_48 {d : Nat} {st : List Value} {σ : am_I} {ρ : am_R} {g : am_J} {τ : am_T} {Q : am_Q} {x0 x1 x2 : Value} {a : Nat} {j : Int32} (ht : 18 ≤ τ.1 a ∧ τ.1 a ≤ 22) (hj : am_inb j (τ.2.1 a) = true) : AW d 132 48 [x0, x1, x2] (.int j :: .ref a :: st) σ ρ g τ Q = AW d 132 49 [x0, x1, x2] (va_rf (ρ a j.toNatClampNeg) :: st) σ ρ g τ Q := aw_aal m132 d132_48 rfl ht hj
theorem d132_49 : decode cX11_knows 49 = .ok (.invokevirtual 315, 3) := by decide +kernel
theorem s132_49 {d : Nat} {st : List Value} {σ : am_I} {ρ : am_R} {g : am_J} {τ : am_T} {Q : am_Q} {x0 x1 x2 : Value} {p0 : Nat} {p1 : Int32} {p2 : Nat} (ht : τ.1 p0 = 3) (hs : st.length ≤ 4) : AW (d + 1) 132 49 [x0, x1, x2] (.ref p2 :: .int p1 :: .ref p0 :: st) σ ρ g τ Q = AW d 34 0 [.ref p0, .int p1, .ref p2] [] σ ρ g τ (fun r9 σ ρ g τ => AW (d + 1) 132 52 [x0, x1, x2] (r9.toList ++ st) σ ρ g τ Q) := aw_cv m132 d132_49 rfl m34 rfl rfl (by decide) en34 ok34 rfl ht hs
theorem d132_52 : decode cX11_knows 52 = .ok (.goto 5, 3) := by decide +kernel
theorem s132_52 {d : Nat} {st : List Value} {σ : am_I} {ρ : am_R} {g : am_J} {τ : am_T} {Q : am_Q} {x0 x1 x2 : Value} : AW d 132 52 [x0, x1, x2] (st) σ ρ g τ Q = AW d 132 57 [x0, x1, x2] (st) σ ρ g τ Q := aw_lc m132 d132_52 rfl rfl rfl
theorem d132_55 : decode cX11_knows 55 = .ok (.bipush (-4), 2) := by decide +kernel
theorem s132_55 {d : Nat} {st : List Value} {σ : am_I} {ρ : am_R} {g : am_J} {τ : am_T} {Q : am_Q} {x0 x1 x2 : Value} : AW d 132 55 [x0, x1, x2] (st) σ ρ g τ Q = AW d 132 57 [x0, x1, x2] (.int (-4) :: st) σ ρ g τ Q := aw_lc m132 d132_55 rfl rfl rfl
theorem d132_57 : decode cX11_knows 57 = .ok (.ireturn, 1) := by decide +kernel
theorem s132_57 {d : Nat} {σ : am_I} {ρ : am_R} {g : am_J} {τ : am_T} {Q : am_Q} {x0 x1 x2 : Value} {v : Int32} : AW d 132 57 [x0, x1, x2] ([.int v]) σ ρ g τ Q = Q (some (.int v)) σ ρ g τ := aw_ri m132 d132_57 rfl
theorem d133_0 : decode cX11_swap 0 = .ok (.aload_n 0, 1) := by decide +kernel
theorem s133_0 {d : Nat} {st : List Value} {σ : am_I} {ρ : am_R} {g : am_J} {τ : am_T} {Q : am_Q} {x1 x2 x3 x4 : Value} {v : Nat} : AW d 133 0 [.ref v, x1, x2, x3, x4] (st) σ ρ g τ Q = AW d 133 1 [.ref v, x1, x2, x3, x4] (.ref v :: st) σ ρ g τ Q := aw_lc m133 d133_0 rfl rfl rfl
theorem d133_1 : decode cX11_swap 1 = .ok (.getfield 10, 3) := by decide +kernel
theorem s133_1 {d : Nat} {st : List Value} {σ : am_I} {ρ : am_R} {g : am_J} {τ : am_T} {Q : am_Q} {x0 x1 x2 x3 x4 : Value} {a : Nat} (ht : τ.1 a = 11) : AW d 133 1 [x0, x1, x2, x3, x4] (.ref a :: st) σ ρ g τ Q = AW d 133 4 [x0, x1, x2, x3, x4] (va_rf (ρ a 0) :: st) σ ρ g τ Q := aw_gr m133 d133_1 rfl rfl rfl ht
theorem d133_4 : decode cX11_swap 4 = .ok (.iload_n 1, 1) := by decide +kernel
theorem s133_4 {d : Nat} {st : List Value} {σ : am_I} {ρ : am_R} {g : am_J} {τ : am_T} {Q : am_Q} {x0 x2 x3 x4 : Value} {v : Int32} : AW d 133 4 [x0, .int v, x2, x3, x4] (st) σ ρ g τ Q = AW d 133 5 [x0, .int v, x2, x3, x4] (.int v :: st) σ ρ g τ Q := aw_lc m133 d133_4 rfl rfl rfl
theorem d133_5 : decode cX11_swap 5 = .ok (.invokevirtual 206, 3) := by decide +kernel
theorem s133_5 {d : Nat} {st : List Value} {σ : am_I} {ρ : am_R} {g : am_J} {τ : am_T} {Q : am_Q} {x0 x1 x2 x3 x4 : Value} {p0 : Nat} {p1 : Int32} (ht : τ.1 p0 = 3) (hs : st.length ≤ 4) : AW (d + 1) 133 5 [x0, x1, x2, x3, x4] (.int p1 :: .ref p0 :: st) σ ρ g τ Q = AW d 24 0 [.ref p0, .int p1] [] σ ρ g τ (fun r9 σ ρ g τ => AW (d + 1) 133 8 [x0, x1, x2, x3, x4] (r9.toList ++ st) σ ρ g τ Q) := aw_cv m133 d133_5 rfl m24 rfl rfl (by decide) en24 ok24 rfl ht hs
theorem d133_8 : decode cX11_swap 8 = .ok (.ifCond .eq 17, 3) := by decide +kernel
theorem s133_8 {d : Nat} {st : List Value} {σ : am_I} {ρ : am_R} {g : am_J} {τ : am_T} {Q : am_Q} {x0 x1 x2 x3 x4 : Value} {v : Int32} : AW d 133 8 [x0, x1, x2, x3, x4] (.int v :: st) σ ρ g τ Q = if v = 0 then AW d 133 25 [x0, x1, x2, x3, x4] (st) σ ρ g τ Q else AW d 133 11 [x0, x1, x2, x3, x4] (st) σ ρ g τ Q := aw_br m133 d133_8 rfl rfl rfl
theorem d133_11 : decode cX11_swap 11 = .ok (.iload_n 2, 1) := by decide +kernel
theorem s133_11 {d : Nat} {st : List Value} {σ : am_I} {ρ : am_R} {g : am_J} {τ : am_T} {Q : am_Q} {x0 x1 x3 x4 : Value} {v : Int32} : AW d 133 11 [x0, x1, .int v, x3, x4] (st) σ ρ g τ Q = AW d 133 12 [x0, x1, .int v, x3, x4] (.int v :: st) σ ρ g τ Q := aw_lc m133 d133_11 rfl rfl rfl
theorem d133_12 : decode cX11_swap 12 = .ok (.invokestatic 196, 3) := by decide +kernel
theorem s133_12 {d : Nat} {st : List Value} {σ : am_I} {ρ : am_R} {g : am_J} {τ : am_T} {Q : am_Q} {x0 x1 x2 x3 x4 : Value} {p0 : Int32} (hs : st.length ≤ 4) : AW (d + 1) 133 12 [x0, x1, x2, x3, x4] (.int p0 :: st) σ ρ g τ Q = AW d 104 0 [.int p0] [] σ ρ g τ (fun r9 σ ρ g τ => AW (d + 1) 133 15 [x0, x1, x2, x3, x4] (r9.toList ++ st) σ ρ g τ Q) := aw_cs m133 d133_12 rfl (by simp only [List.length_cons]; omega) rfl rfl en104 ok104 rfl hs
theorem d133_15 : decode cX11_swap 15 = .ok (.ifCond .eq 10, 3) := by decide +kernel
theorem s133_15 {d : Nat} {st : List Value} {σ : am_I} {ρ : am_R} {g : am_J} {τ : am_T} {Q : am_Q} {x0 x1 x2 x3 x4 : Value} {v : Int32} : AW d 133 15 [x0, x1, x2, x3, x4] (.int v :: st) σ ρ g τ Q = if v = 0 then AW d 133 25 [x0, x1, x2, x3, x4] (st) σ ρ g τ Q else AW d 133 18 [x0, x1, x2, x3, x4] (st) σ ρ g τ Q := aw_br m133 d133_15 rfl rfl rfl
theorem d133_18 : decode cX11_swap 18 = .ok (.iload_n 3, 1) := by decide +kernel
theorem s133_18 {d : Nat} {st : List Value} {σ : am_I} {ρ : am_R} {g : am_J} {τ : am_T} {Q : am_Q} {x0 x1 x2 x4 : Value} {v : Int32} : AW d 133 18 [x0, x1, x2, .int v, x4] (st) σ ρ g τ Q = AW d 133 19 [x0, x1, x2, .int v, x4] (.int v :: st) σ ρ g τ Q := aw_lc m133 d133_18 rfl rfl rfl
theorem d133_19 : decode cX11_swap 19 = .ok (.invokestatic 193, 3) := by decide +kernel
theorem s133_19 {d : Nat} {st : List Value} {σ : am_I} {ρ : am_R} {g : am_J} {τ : am_T} {Q : am_Q} {x0 x1 x2 x3 x4 : Value} {p0 : Int32} (hs : st.length ≤ 4) : AW (d + 1) 133 19 [x0, x1, x2, x3, x4] (.int p0 :: st) σ ρ g τ Q = AW d 105 0 [.int p0] [] σ ρ g τ (fun r9 σ ρ g τ => AW (d + 1) 133 22 [x0, x1, x2, x3, x4] (r9.toList ++ st) σ ρ g τ Q) := aw_cs m133 d133_19 rfl (by simp only [List.length_cons]; omega) rfl rfl en105 ok105 rfl hs
theorem d133_22 : decode cX11_swap 22 = .ok (.ifCond .ne 5, 3) := by decide +kernel
theorem s133_22 {d : Nat} {st : List Value} {σ : am_I} {ρ : am_R} {g : am_J} {τ : am_T} {Q : am_Q} {x0 x1 x2 x3 x4 : Value} {v : Int32} : AW d 133 22 [x0, x1, x2, x3, x4] (.int v :: st) σ ρ g τ Q = if ¬ v = 0 then AW d 133 27 [x0, x1, x2, x3, x4] (st) σ ρ g τ Q else AW d 133 25 [x0, x1, x2, x3, x4] (st) σ ρ g τ Q := aw_br m133 d133_22 rfl rfl rfl
theorem d133_25 : decode cX11_swap 25 = .ok (.iconst (-1), 1) := by decide +kernel
theorem s133_25 {d : Nat} {st : List Value} {σ : am_I} {ρ : am_R} {g : am_J} {τ : am_T} {Q : am_Q} {x0 x1 x2 x3 x4 : Value} : AW d 133 25 [x0, x1, x2, x3, x4] (st) σ ρ g τ Q = AW d 133 26 [x0, x1, x2, x3, x4] (.int (-1) :: st) σ ρ g τ Q := aw_lc m133 d133_25 rfl rfl rfl
theorem d133_26 : decode cX11_swap 26 = .ok (.ireturn, 1) := by decide +kernel
theorem s133_26 {d : Nat} {σ : am_I} {ρ : am_R} {g : am_J} {τ : am_T} {Q : am_Q} {x0 x1 x2 x3 x4 : Value} {v : Int32} : AW d 133 26 [x0, x1, x2, x3, x4] ([.int v]) σ ρ g τ Q = Q (some (.int v)) σ ρ g τ := aw_ri m133 d133_26 rfl
theorem d133_27 : decode cX11_swap 27 = .ok (.aload_n 0, 1) := by decide +kernel
theorem s133_27 {d : Nat} {st : List Value} {σ : am_I} {ρ : am_R} {g : am_J} {τ : am_T} {Q : am_Q} {x1 x2 x3 x4 : Value} {v : Nat} : AW d 133 27 [.ref v, x1, x2, x3, x4] (st) σ ρ g τ Q = AW d 133 28 [.ref v, x1, x2, x3, x4] (.ref v :: st) σ ρ g τ Q := aw_lc m133 d133_27 rfl rfl rfl
theorem d133_28 : decode cX11_swap 28 = .ok (.getfield 10, 3) := by decide +kernel
theorem s133_28 {d : Nat} {st : List Value} {σ : am_I} {ρ : am_R} {g : am_J} {τ : am_T} {Q : am_Q} {x0 x1 x2 x3 x4 : Value} {a : Nat} (ht : τ.1 a = 11) : AW d 133 28 [x0, x1, x2, x3, x4] (.ref a :: st) σ ρ g τ Q = AW d 133 31 [x0, x1, x2, x3, x4] (va_rf (ρ a 0) :: st) σ ρ g τ Q := aw_gr m133 d133_28 rfl rfl rfl ht
theorem d133_31 : decode cX11_swap 31 = .ok (.getfield 209, 3) := by decide +kernel
theorem s133_31 {d : Nat} {st : List Value} {σ : am_I} {ρ : am_R} {g : am_J} {τ : am_T} {Q : am_Q} {x0 x1 x2 x3 x4 : Value} {a : Nat} (ht : τ.1 a = 3) : AW d 133 31 [x0, x1, x2, x3, x4] (.ref a :: st) σ ρ g τ Q = AW d 133 34 [x0, x1, x2, x3, x4] (va_rf (ρ a 7) :: st) σ ρ g τ Q := aw_gr m133 d133_31 rfl rfl rfl ht
theorem d133_34 : decode cX11_swap 34 = .ok (.iload_n 1, 1) := by decide +kernel
theorem s133_34 {d : Nat} {st : List Value} {σ : am_I} {ρ : am_R} {g : am_J} {τ : am_T} {Q : am_Q} {x0 x2 x3 x4 : Value} {v : Int32} : AW d 133 34 [x0, .int v, x2, x3, x4] (st) σ ρ g τ Q = AW d 133 35 [x0, .int v, x2, x3, x4] (.int v :: st) σ ρ g τ Q := aw_lc m133 d133_34 rfl rfl rfl
theorem d133_35 : decode cX11_swap 35 = .ok (.aaload, 1) := by decide +kernel
theorem s133_35 {d : Nat} {st : List Value} {σ : am_I} {ρ : am_R} {g : am_J} {τ : am_T} {Q : am_Q} {x0 x1 x2 x3 x4 : Value} {a : Nat} {j : Int32} (ht : 18 ≤ τ.1 a ∧ τ.1 a ≤ 22) (hj : am_inb j (τ.2.1 a) = true) : AW d 133 35 [x0, x1, x2, x3, x4] (.int j :: .ref a :: st) σ ρ g τ Q = AW d 133 36 [x0, x1, x2, x3, x4] (va_rf (ρ a j.toNatClampNeg) :: st) σ ρ g τ Q := aw_aal m133 d133_35 rfl ht hj
theorem d133_36 : decode cX11_swap 36 = .ok (.astore 4, 2) := by decide +kernel
theorem s133_36 {d : Nat} {st : List Value} {σ : am_I} {ρ : am_R} {g : am_J} {τ : am_T} {Q : am_Q} {x0 x1 x2 x4 : Value} {v : Nat} {u : Int32} : AW d 133 36 [x0, x1, x2, .int u, x4] (.ref v :: st) σ ρ g τ Q = AW d 133 38 [x0, x1, x2, .int u, .ref v] (st) σ ρ g τ Q := aw_lc m133 d133_36 rfl rfl rfl
theorem d133_38 : decode cX11_swap 38 = .ok (.aload 4, 2) := by decide +kernel
theorem s133_38 {d : Nat} {st : List Value} {σ : am_I} {ρ : am_R} {g : am_J} {τ : am_T} {Q : am_Q} {x0 x1 x2 x3 : Value} {v : Nat} : AW d 133 38 [x0, x1, x2, x3, .ref v] (st) σ ρ g τ Q = AW d 133 40 [x0, x1, x2, x3, .ref v] (.ref v :: st) σ ρ g τ Q := aw_lc m133 d133_38 rfl rfl rfl
theorem d133_40 : decode cX11_swap 40 = .ok (.getfield 217, 3) := by decide +kernel
theorem s133_40 {d : Nat} {st : List Value} {σ : am_I} {ρ : am_R} {g : am_J} {τ : am_T} {Q : am_Q} {x0 x1 x2 x3 x4 : Value} {a : Nat} (ht : τ.1 a = 1) : AW d 133 40 [x0, x1, x2, x3, x4] (.ref a :: st) σ ρ g τ Q = AW d 133 43 [x0, x1, x2, x3, x4] (.int (σ a 1) :: st) σ ρ g τ Q := aw_gi m133 d133_40 rfl rfl rfl ht
theorem d133_43 : decode cX11_swap 43 = .ok (.ifCond .ne 29, 3) := by decide +kernel
theorem s133_43 {d : Nat} {st : List Value} {σ : am_I} {ρ : am_R} {g : am_J} {τ : am_T} {Q : am_Q} {x0 x1 x2 x3 x4 : Value} {v : Int32} : AW d 133 43 [x0, x1, x2, x3, x4] (.int v :: st) σ ρ g τ Q = if ¬ v = 0 then AW d 133 72 [x0, x1, x2, x3, x4] (st) σ ρ g τ Q else AW d 133 46 [x0, x1, x2, x3, x4] (st) σ ρ g τ Q := aw_br m133 d133_43 rfl rfl rfl
theorem d133_46 : decode cX11_swap 46 = .ok (.aload 4, 2) := by decide +kernel
theorem s133_46 {d : Nat} {st : List Value} {σ : am_I} {ρ : am_R} {g : am_J} {τ : am_T} {Q : am_Q} {x0 x1 x2 x3 : Value} {v : Nat} : AW d 133 46 [x0, x1, x2, x3, .ref v] (st) σ ρ g τ Q = AW d 133 48 [x0, x1, x2, x3, .ref v] (.ref v :: st) σ ρ g τ Q := aw_lc m133 d133_46 rfl rfl rfl
theorem d133_48 : decode cX11_swap 48 = .ok (.getfield 253, 3) := by decide +kernel
theorem s133_48 {d : Nat} {st : List Value} {σ : am_I} {ρ : am_R} {g : am_J} {τ : am_T} {Q : am_Q} {x0 x1 x2 x3 x4 : Value} {a : Nat} (ht : τ.1 a = 1) : AW d 133 48 [x0, x1, x2, x3, x4] (.ref a :: st) σ ρ g τ Q = AW d 133 51 [x0, x1, x2, x3, x4] (.int (σ a 8) :: st) σ ρ g τ Q := aw_gi m133 d133_48 rfl rfl rfl ht
theorem d133_51 : decode cX11_swap 51 = .ok (.ifCond .ne 21, 3) := by decide +kernel
theorem s133_51 {d : Nat} {st : List Value} {σ : am_I} {ρ : am_R} {g : am_J} {τ : am_T} {Q : am_Q} {x0 x1 x2 x3 x4 : Value} {v : Int32} : AW d 133 51 [x0, x1, x2, x3, x4] (.int v :: st) σ ρ g τ Q = if ¬ v = 0 then AW d 133 72 [x0, x1, x2, x3, x4] (st) σ ρ g τ Q else AW d 133 54 [x0, x1, x2, x3, x4] (st) σ ρ g τ Q := aw_br m133 d133_51 rfl rfl rfl
theorem d133_54 : decode cX11_swap 54 = .ok (.iload_n 2, 1) := by decide +kernel
theorem s133_54 {d : Nat} {st : List Value} {σ : am_I} {ρ : am_R} {g : am_J} {τ : am_T} {Q : am_Q} {x0 x1 x3 x4 : Value} {v : Int32} : AW d 133 54 [x0, x1, .int v, x3, x4] (st) σ ρ g τ Q = AW d 133 55 [x0, x1, .int v, x3, x4] (.int v :: st) σ ρ g τ Q := aw_lc m133 d133_54 rfl rfl rfl
theorem d133_55 : decode cX11_swap 55 = .ok (.bipush 100, 2) := by decide +kernel
theorem s133_55 {d : Nat} {st : List Value} {σ : am_I} {ρ : am_R} {g : am_J} {τ : am_T} {Q : am_Q} {x0 x1 x2 x3 x4 : Value} : AW d 133 55 [x0, x1, x2, x3, x4] (st) σ ρ g τ Q = AW d 133 57 [x0, x1, x2, x3, x4] (.int 100 :: st) σ ρ g τ Q := aw_lc m133 d133_55 rfl rfl rfl
theorem d133_57 : decode cX11_swap 57 = .ok (.imul, 1) := by decide +kernel
theorem s133_57 {d : Nat} {st : List Value} {σ : am_I} {ρ : am_R} {g : am_J} {τ : am_T} {Q : am_Q} {x0 x1 x2 x3 x4 : Value} {v w : Int32} : AW d 133 57 [x0, x1, x2, x3, x4] (.int w :: .int v :: st) σ ρ g τ Q = AW d 133 58 [x0, x1, x2, x3, x4] (.int (v * w) :: st) σ ρ g τ Q := aw_lc m133 d133_57 rfl rfl rfl
theorem d133_58 : decode cX11_swap 58 = .ok (.iload_n 3, 1) := by decide +kernel
theorem s133_58 {d : Nat} {st : List Value} {σ : am_I} {ρ : am_R} {g : am_J} {τ : am_T} {Q : am_Q} {x0 x1 x2 x4 : Value} {v : Int32} : AW d 133 58 [x0, x1, x2, .int v, x4] (st) σ ρ g τ Q = AW d 133 59 [x0, x1, x2, .int v, x4] (.int v :: st) σ ρ g τ Q := aw_lc m133 d133_58 rfl rfl rfl
theorem d133_59 : decode cX11_swap 59 = .ok (.idiv, 1) := by decide +kernel
theorem s133_59 {d : Nat} {st : List Value} {σ : am_I} {ρ : am_R} {g : am_J} {τ : am_T} {Q : am_Q} {x0 x1 x2 x3 x4 : Value} {v w : Int32} (h0 : ¬ w = 0) : AW d 133 59 [x0, x1, x2, x3, x4] (.int w :: .int v :: st) σ ρ g τ Q = AW d 133 60 [x0, x1, x2, x3, x4] (.int (v / w) :: st) σ ρ g τ Q := aw_div m133 d133_59 h0 rfl
theorem d133_60 : decode cX11_swap 60 = .ok (.aload_n 0, 1) := by decide +kernel
theorem s133_60 {d : Nat} {st : List Value} {σ : am_I} {ρ : am_R} {g : am_J} {τ : am_T} {Q : am_Q} {x1 x2 x3 x4 : Value} {v : Nat} : AW d 133 60 [.ref v, x1, x2, x3, x4] (st) σ ρ g τ Q = AW d 133 61 [.ref v, x1, x2, x3, x4] (.ref v :: st) σ ρ g τ Q := aw_lc m133 d133_60 rfl rfl rfl
theorem d133_61 : decode cX11_swap 61 = .ok (.getfield 10, 3) := by decide +kernel
theorem s133_61 {d : Nat} {st : List Value} {σ : am_I} {ρ : am_R} {g : am_J} {τ : am_T} {Q : am_Q} {x0 x1 x2 x3 x4 : Value} {a : Nat} (ht : τ.1 a = 11) : AW d 133 61 [x0, x1, x2, x3, x4] (.ref a :: st) σ ρ g τ Q = AW d 133 64 [x0, x1, x2, x3, x4] (va_rf (ρ a 0) :: st) σ ρ g τ Q := aw_gr m133 d133_61 rfl rfl rfl ht
theorem d133_64 : decode cX11_swap 64 = .ok (.aload 4, 2) := by decide +kernel
theorem s133_64 {d : Nat} {st : List Value} {σ : am_I} {ρ : am_R} {g : am_J} {τ : am_T} {Q : am_Q} {x0 x1 x2 x3 : Value} {v : Nat} : AW d 133 64 [x0, x1, x2, x3, .ref v] (st) σ ρ g τ Q = AW d 133 66 [x0, x1, x2, x3, .ref v] (.ref v :: st) σ ρ g τ Q := aw_lc m133 d133_64 rfl rfl rfl
theorem d133_66 : decode cX11_swap 66 = .ok (.invokevirtual 319, 3) := by decide +kernel
theorem s133_66 {d : Nat} {st : List Value} {σ : am_I} {ρ : am_R} {g : am_J} {τ : am_T} {Q : am_Q} {x0 x1 x2 x3 x4 : Value} {p0 : Nat} {p1 : Nat} (ht : τ.1 p0 = 3) (hs : st.length ≤ 4) : AW (d + 1) 133 66 [x0, x1, x2, x3, x4] (.ref p1 :: .ref p0 :: st) σ ρ g τ Q = AW d 35 0 [.ref p0, .ref p1] [] σ ρ g τ (fun r9 σ ρ g τ => AW (d + 1) 133 69 [x0, x1, x2, x3, x4] (r9.toList ++ st) σ ρ g τ Q) := aw_cv m133 d133_66 rfl m35 rfl rfl (by decide) en35 ok35 rfl ht hs
theorem d133_69 : decode cX11_swap 69 = .ok (.if_icmp .ge 6, 3) := by decide +kernel
theorem s133_69 {d : Nat} {st : List Value} {σ : am_I} {ρ : am_R} {g : am_J} {τ : am_T} {Q : am_Q} {x0 x1 x2 x3 x4 : Value} {v w : Int32} : AW d 133 69 [x0, x1, x2, x3, x4] (.int w :: .int v :: st) σ ρ g τ Q = if w ≤ v then AW d 133 75 [x0, x1, x2, x3, x4] (st) σ ρ g τ Q else AW d 133 72 [x0, x1, x2, x3, x4] (st) σ ρ g τ Q := aw_br m133 d133_69 rfl rfl rfl
theorem d133_72 : decode cX11_swap 72 = .ok (.bipush (-4), 2) := by decide +kernel
theorem s133_72 {d : Nat} {st : List Value} {σ : am_I} {ρ : am_R} {g : am_J} {τ : am_T} {Q : am_Q} {x0 x1 x2 x3 x4 : Value} : AW d 133 72 [x0, x1, x2, x3, x4] (st) σ ρ g τ Q = AW d 133 74 [x0, x1, x2, x3, x4] (.int (-4) :: st) σ ρ g τ Q := aw_lc m133 d133_72 rfl rfl rfl
theorem d133_74 : decode cX11_swap 74 = .ok (.ireturn, 1) := by decide +kernel
theorem s133_74 {d : Nat} {σ : am_I} {ρ : am_R} {g : am_J} {τ : am_T} {Q : am_Q} {x0 x1 x2 x3 x4 : Value} {v : Int32} : AW d 133 74 [x0, x1, x2, x3, x4] ([.int v]) σ ρ g τ Q = Q (some (.int v)) σ ρ g τ := aw_ri m133 d133_74 rfl
theorem d133_75 : decode cX11_swap 75 = .ok (.aload_n 0, 1) := by decide +kernel
theorem s133_75 {d : Nat} {st : List Value} {σ : am_I} {ρ : am_R} {g : am_J} {τ : am_T} {Q : am_Q} {x1 x2 x3 x4 : Value} {v : Nat} : AW d 133 75 [.ref v, x1, x2, x3, x4] (st) σ ρ g τ Q = AW d 133 76 [.ref v, x1, x2, x3, x4] (.ref v :: st) σ ρ g τ Q := aw_lc m133 d133_75 rfl rfl rfl
theorem d133_76 : decode cX11_swap 76 = .ok (.getfield 10, 3) := by decide +kernel
theorem s133_76 {d : Nat} {st : List Value} {σ : am_I} {ρ : am_R} {g : am_J} {τ : am_T} {Q : am_Q} {x0 x1 x2 x3 x4 : Value} {a : Nat} (ht : τ.1 a = 11) : AW d 133 76 [x0, x1, x2, x3, x4] (.ref a :: st) σ ρ g τ Q = AW d 133 79 [x0, x1, x2, x3, x4] (va_rf (ρ a 0) :: st) σ ρ g τ Q := aw_gr m133 d133_76 rfl rfl rfl ht
theorem d133_79 : decode cX11_swap 79 = .ok (.getfield 199, 3) := by decide +kernel
theorem s133_79 {d : Nat} {st : List Value} {σ : am_I} {ρ : am_R} {g : am_J} {τ : am_T} {Q : am_Q} {x0 x1 x2 x3 x4 : Value} {a : Nat} (ht : τ.1 a = 3) : AW d 133 79 [x0, x1, x2, x3, x4] (.ref a :: st) σ ρ g τ Q = AW d 133 82 [x0, x1, x2, x3, x4] (.int (σ a 8) :: st) σ ρ g τ Q := aw_gi m133 d133_79 rfl rfl rfl ht
theorem d133_82 : decode cX11_swap 82 = .ok (.bipush 16, 2) := by decide +kernel
theorem s133_82 {d : Nat} {st : List Value} {σ : am_I} {ρ : am_R} {g : am_J} {τ : am_T} {Q : am_Q} {x0 x1 x2 x3 x4 : Value} : AW d 133 82 [x0, x1, x2, x3, x4] (st) σ ρ g τ Q = AW d 133 84 [x0, x1, x2, x3, x4] (.int 16 :: st) σ ρ g τ Q := aw_lc m133 d133_82 rfl rfl rfl
theorem d133_84 : decode cX11_swap 84 = .ok (.if_icmp .lt 6, 3) := by decide +kernel
theorem s133_84 {d : Nat} {st : List Value} {σ : am_I} {ρ : am_R} {g : am_J} {τ : am_T} {Q : am_Q} {x0 x1 x2 x3 x4 : Value} {v w : Int32} : AW d 133 84 [x0, x1, x2, x3, x4] (.int w :: .int v :: st) σ ρ g τ Q = if v < w then AW d 133 90 [x0, x1, x2, x3, x4] (st) σ ρ g τ Q else AW d 133 87 [x0, x1, x2, x3, x4] (st) σ ρ g τ Q := aw_br m133 d133_84 rfl rfl rfl
theorem d133_87 : decode cX11_swap 87 = .ok (.bipush (-2), 2) := by decide +kernel
theorem s133_87 {d : Nat} {st : List Value} {σ : am_I} {ρ : am_R} {g : am_J} {τ : am_T} {Q : am_Q} {x0 x1 x2 x3 x4 : Value} : AW d 133 87 [x0, x1, x2, x3, x4] (st) σ ρ g τ Q = AW d 133 89 [x0, x1, x2, x3, x4] (.int (-2) :: st) σ ρ g τ Q := aw_lc m133 d133_87 rfl rfl rfl
theorem d133_89 : decode cX11_swap 89 = .ok (.ireturn, 1) := by decide +kernel
theorem s133_89 {d : Nat} {σ : am_I} {ρ : am_R} {g : am_J} {τ : am_T} {Q : am_Q} {x0 x1 x2 x3 x4 : Value} {v : Int32} : AW d 133 89 [x0, x1, x2, x3, x4] ([.int v]) σ ρ g τ Q = Q (some (.int v)) σ ρ g τ := aw_ri m133 d133_89 rfl
theorem d133_90 : decode cX11_swap 90 = .ok (.aload 4, 2) := by decide +kernel
theorem s133_90 {d : Nat} {st : List Value} {σ : am_I} {ρ : am_R} {g : am_J} {τ : am_T} {Q : am_Q} {x0 x1 x2 x3 : Value} {v : Nat} : AW d 133 90 [x0, x1, x2, x3, .ref v] (st) σ ρ g τ Q = AW d 133 92 [x0, x1, x2, x3, .ref v] (.ref v :: st) σ ρ g τ Q := aw_lc m133 d133_90 rfl rfl rfl
theorem d133_92 : decode cX11_swap 92 = .ok (.iconst 1, 1) := by decide +kernel
theorem s133_92 {d : Nat} {st : List Value} {σ : am_I} {ρ : am_R} {g : am_J} {τ : am_T} {Q : am_Q} {x0 x1 x2 x3 x4 : Value} : AW d 133 92 [x0, x1, x2, x3, x4] (st) σ ρ g τ Q = AW d 133 93 [x0, x1, x2, x3, x4] (.int 1 :: st) σ ρ g τ Q := aw_lc m133 d133_92 rfl rfl rfl
theorem d133_93 : decode cX11_swap 93 = .ok (.putfield 253, 3) := by decide +kernel
theorem s133_93 {d : Nat} {st : List Value} {σ : am_I} {ρ : am_R} {g : am_J} {τ : am_T} {Q : am_Q} {x0 x1 x2 x3 x4 : Value} {a : Nat} {v : Int32} (ht : τ.1 a = 1) (hv : am_b01 v = true) : AW d 133 93 [x0, x1, x2, x3, x4] (.int v :: .ref a :: st) σ ρ g τ Q = AW d 133 96 [x0, x1, x2, x3, x4] (st) (am_u σ a 8 v) ρ g τ Q := aw_pz m133 d133_93 rfl rfl (Or.inl rfl) rfl ht hv
theorem d133_96 : decode cX11_swap 96 = .ok (.aload_n 0, 1) := by decide +kernel
theorem s133_96 {d : Nat} {st : List Value} {σ : am_I} {ρ : am_R} {g : am_J} {τ : am_T} {Q : am_Q} {x1 x2 x3 x4 : Value} {v : Nat} : AW d 133 96 [.ref v, x1, x2, x3, x4] (st) σ ρ g τ Q = AW d 133 97 [.ref v, x1, x2, x3, x4] (.ref v :: st) σ ρ g τ Q := aw_lc m133 d133_96 rfl rfl rfl
theorem d133_97 : decode cX11_swap 97 = .ok (.getfield 10, 3) := by decide +kernel
theorem s133_97 {d : Nat} {st : List Value} {σ : am_I} {ρ : am_R} {g : am_J} {τ : am_T} {Q : am_Q} {x0 x1 x2 x3 x4 : Value} {a : Nat} (ht : τ.1 a = 11) : AW d 133 97 [x0, x1, x2, x3, x4] (.ref a :: st) σ ρ g τ Q = AW d 133 100 [x0, x1, x2, x3, x4] (va_rf (ρ a 0) :: st) σ ρ g τ Q := aw_gr m133 d133_97 rfl rfl rfl ht
theorem d133_100 : decode cX11_swap 100 = .ok (.aload 4, 2) := by decide +kernel
theorem s133_100 {d : Nat} {st : List Value} {σ : am_I} {ρ : am_R} {g : am_J} {τ : am_T} {Q : am_Q} {x0 x1 x2 x3 : Value} {v : Nat} : AW d 133 100 [x0, x1, x2, x3, .ref v] (st) σ ρ g τ Q = AW d 133 102 [x0, x1, x2, x3, .ref v] (.ref v :: st) σ ρ g τ Q := aw_lc m133 d133_100 rfl rfl rfl
theorem d133_102 : decode cX11_swap 102 = .ok (.getfield 222, 3) := by decide +kernel
theorem s133_102 {d : Nat} {st : List Value} {σ : am_I} {ρ : am_R} {g : am_J} {τ : am_T} {Q : am_Q} {x0 x1 x2 x3 x4 : Value} {a : Nat} (ht : τ.1 a = 1) : AW d 133 102 [x0, x1, x2, x3, x4] (.ref a :: st) σ ρ g τ Q = AW d 133 105 [x0, x1, x2, x3, x4] (.int (σ a 0) :: st) σ ρ g τ Q := aw_gi m133 d133_102 rfl rfl rfl ht
theorem d133_105 : decode cX11_swap 105 = .ok (.iconst 0, 1) := by decide +kernel
theorem s133_105 {d : Nat} {st : List Value} {σ : am_I} {ρ : am_R} {g : am_J} {τ : am_T} {Q : am_Q} {x0 x1 x2 x3 x4 : Value} : AW d 133 105 [x0, x1, x2, x3, x4] (st) σ ρ g τ Q = AW d 133 106 [x0, x1, x2, x3, x4] (.int 0 :: st) σ ρ g τ Q := aw_lc m133 d133_105 rfl rfl rfl
theorem d133_106 : decode cX11_swap 106 = .ok (.aload 4, 2) := by decide +kernel
theorem s133_106 {d : Nat} {st : List Value} {σ : am_I} {ρ : am_R} {g : am_J} {τ : am_T} {Q : am_Q} {x0 x1 x2 x3 : Value} {v : Nat} : AW d 133 106 [x0, x1, x2, x3, .ref v] (st) σ ρ g τ Q = AW d 133 108 [x0, x1, x2, x3, .ref v] (.ref v :: st) σ ρ g τ Q := aw_lc m133 d133_106 rfl rfl rfl
theorem d133_108 : decode cX11_swap 108 = .ok (.getfield 225, 3) := by decide +kernel
theorem s133_108 {d : Nat} {st : List Value} {σ : am_I} {ρ : am_R} {g : am_J} {τ : am_T} {Q : am_Q} {x0 x1 x2 x3 x4 : Value} {a : Nat} (ht : τ.1 a = 1) : AW d 133 108 [x0, x1, x2, x3, x4] (.ref a :: st) σ ρ g τ Q = AW d 133 111 [x0, x1, x2, x3, x4] (.int (σ a 2) :: st) σ ρ g τ Q := aw_gi m133 d133_108 rfl rfl rfl ht
theorem d133_111 : decode cX11_swap 111 = .ok (.iload_n 2, 1) := by decide +kernel
theorem s133_111 {d : Nat} {st : List Value} {σ : am_I} {ρ : am_R} {g : am_J} {τ : am_T} {Q : am_Q} {x0 x1 x3 x4 : Value} {v : Int32} : AW d 133 111 [x0, x1, .int v, x3, x4] (st) σ ρ g τ Q = AW d 133 112 [x0, x1, .int v, x3, x4] (.int v :: st) σ ρ g τ Q := aw_lc m133 d133_111 rfl rfl rfl
theorem d133_112 : decode cX11_swap 112 = .ok (.iload_n 3, 1) := by decide +kernel
theorem s133_112 {d : Nat} {st : List Value} {σ : am_I} {ρ : am_R} {g : am_J} {τ : am_T} {Q : am_Q} {x0 x1 x2 x4 : Value} {v : Int32} : AW d 133 112 [x0, x1, x2, .int v, x4] (st) σ ρ g τ Q = AW d 133 113 [x0, x1, x2, .int v, x4] (.int v :: st) σ ρ g τ Q := aw_lc m133 d133_112 rfl rfl rfl
theorem d133_113 : decode cX11_swap 113 = .ok (.invokevirtual 202, 3) := by decide +kernel
theorem s133_113 {d : Nat} {st : List Value} {σ : am_I} {ρ : am_R} {g : am_J} {τ : am_T} {Q : am_Q} {x0 x1 x2 x3 x4 : Value} {p0 : Nat} {p1 : Int32} {p2 : Int32} {p3 : Int32} {p4 : Int32} {p5 : Int32} (ht : τ.1 p0 = 3) (hs : st.length ≤ 4) : AW (d + 1) 133 113 [x0, x1, x2, x3, x4] (.int p5 :: .int p4 :: .int p3 :: .int p2 :: .int p1 :: .ref p0 :: st) σ ρ g τ Q = AW d 25 0 [.ref p0, .int p1, .int p2, .int p3, .int p4, .int p5] [] σ ρ g τ (fun r9 σ ρ g τ => AW (d + 1) 133 116 [x0, x1, x2, x3, x4] (r9.toList ++ st) σ ρ g τ Q) := aw_cv m133 d133_113 rfl m25 rfl rfl (by decide) en25 ok25 rfl ht hs
theorem d133_116 : decode cX11_swap 116 = .ok (.ireturn, 1) := by decide +kernel
theorem s133_116 {d : Nat} {σ : am_I} {ρ : am_R} {g : am_J} {τ : am_T} {Q : am_Q} {x0 x1 x2 x3 x4 : Value} {v : Int32} : AW d 133 116 [x0, x1, x2, x3, x4] ([.int v]) σ ρ g τ Q = Q (some (.int v)) σ ρ g τ := aw_ri m133 d133_116 rfl
theorem d134_0 : decode cX11_offer 0 = .ok (.aload_n 0, 1) := by decide +kernel
theorem s134_0 {d : Nat} {st : List Value} {σ : am_I} {ρ : am_R} {g : am_J} {τ : am_T} {Q : am_Q} {x1 x2 x3 x4 x5 : Value} {v : Nat} : AW d 134 0 [.ref v, x1, x2, x3, x4, x5] (st) σ ρ g τ Q = AW d 134 1 [.ref v, x1, x2, x3, x4, x5] (.ref v :: st) σ ρ g τ Q := aw_lc m134 d134_0 rfl rfl rfl
theorem d134_1 : decode cX11_offer 1 = .ok (.getfield 10, 3) := by decide +kernel
theorem s134_1 {d : Nat} {st : List Value} {σ : am_I} {ρ : am_R} {g : am_J} {τ : am_T} {Q : am_Q} {x0 x1 x2 x3 x4 x5 : Value} {a : Nat} (ht : τ.1 a = 11) : AW d 134 1 [x0, x1, x2, x3, x4, x5] (.ref a :: st) σ ρ g τ Q = AW d 134 4 [x0, x1, x2, x3, x4, x5] (va_rf (ρ a 0) :: st) σ ρ g τ Q := aw_gr m134 d134_1 rfl rfl rfl ht
theorem d134_4 : decode cX11_offer 4 = .ok (.iload_n 1, 1) := by decide +kernel
theorem s134_4 {d : Nat} {st : List Value} {σ : am_I} {ρ : am_R} {g : am_J} {τ : am_T} {Q : am_Q} {x0 x2 x3 x4 x5 : Value} {v : Int32} : AW d 134 4 [x0, .int v, x2, x3, x4, x5] (st) σ ρ g τ Q = AW d 134 5 [x0, .int v, x2, x3, x4, x5] (.int v :: st) σ ρ g τ Q := aw_lc m134 d134_4 rfl rfl rfl
theorem d134_5 : decode cX11_offer 5 = .ok (.invokevirtual 206, 3) := by decide +kernel
theorem s134_5 {d : Nat} {st : List Value} {σ : am_I} {ρ : am_R} {g : am_J} {τ : am_T} {Q : am_Q} {x0 x1 x2 x3 x4 x5 : Value} {p0 : Nat} {p1 : Int32} (ht : τ.1 p0 = 3) (hs : st.length ≤ 4) : AW (d + 1) 134 5 [x0, x1, x2, x3, x4, x5] (.int p1 :: .ref p0 :: st) σ ρ g τ Q = AW d 24 0 [.ref p0, .int p1] [] σ ρ g τ (fun r9 σ ρ g τ => AW (d + 1) 134 8 [x0, x1, x2, x3, x4, x5] (r9.toList ++ st) σ ρ g τ Q) := aw_cv m134 d134_5 rfl m24 rfl rfl (by decide) en24 ok24 rfl ht hs
theorem d134_8 : decode cX11_offer 8 = .ok (.ifCond .eq 10, 3) := by decide +kernel
theorem s134_8 {d : Nat} {st : List Value} {σ : am_I} {ρ : am_R} {g : am_J} {τ : am_T} {Q : am_Q} {x0 x1 x2 x3 x4 x5 : Value} {v : Int32} : AW d 134 8 [x0, x1, x2, x3, x4, x5] (.int v :: st) σ ρ g τ Q = if v = 0 then AW d 134 18 [x0, x1, x2, x3, x4, x5] (st) σ ρ g τ Q else AW d 134 11 [x0, x1, x2, x3, x4, x5] (st) σ ρ g τ Q := aw_br m134 d134_8 rfl rfl rfl
theorem d134_11 : decode cX11_offer 11 = .ok (.iload_n 2, 1) := by decide +kernel
theorem s134_11 {d : Nat} {st : List Value} {σ : am_I} {ρ : am_R} {g : am_J} {τ : am_T} {Q : am_Q} {x0 x1 x3 x4 x5 : Value} {v : Int32} : AW d 134 11 [x0, x1, .int v, x3, x4, x5] (st) σ ρ g τ Q = AW d 134 12 [x0, x1, .int v, x3, x4, x5] (.int v :: st) σ ρ g τ Q := aw_lc m134 d134_11 rfl rfl rfl
theorem d134_12 : decode cX11_offer 12 = .ok (.invokestatic 193, 3) := by decide +kernel
theorem s134_12 {d : Nat} {st : List Value} {σ : am_I} {ρ : am_R} {g : am_J} {τ : am_T} {Q : am_Q} {x0 x1 x2 x3 x4 x5 : Value} {p0 : Int32} (hs : st.length ≤ 4) : AW (d + 1) 134 12 [x0, x1, x2, x3, x4, x5] (.int p0 :: st) σ ρ g τ Q = AW d 105 0 [.int p0] [] σ ρ g τ (fun r9 σ ρ g τ => AW (d + 1) 134 15 [x0, x1, x2, x3, x4, x5] (r9.toList ++ st) σ ρ g τ Q) := aw_cs m134 d134_12 rfl (by simp only [List.length_cons]; omega) rfl rfl en105 ok105 rfl hs
theorem d134_15 : decode cX11_offer 15 = .ok (.ifCond .ne 5, 3) := by decide +kernel
theorem s134_15 {d : Nat} {st : List Value} {σ : am_I} {ρ : am_R} {g : am_J} {τ : am_T} {Q : am_Q} {x0 x1 x2 x3 x4 x5 : Value} {v : Int32} : AW d 134 15 [x0, x1, x2, x3, x4, x5] (.int v :: st) σ ρ g τ Q = if ¬ v = 0 then AW d 134 20 [x0, x1, x2, x3, x4, x5] (st) σ ρ g τ Q else AW d 134 18 [x0, x1, x2, x3, x4, x5] (st) σ ρ g τ Q := aw_br m134 d134_15 rfl rfl rfl
theorem d134_18 : decode cX11_offer 18 = .ok (.iconst (-1), 1) := by decide +kernel
theorem s134_18 {d : Nat} {st : List Value} {σ : am_I} {ρ : am_R} {g : am_J} {τ : am_T} {Q : am_Q} {x0 x1 x2 x3 x4 x5 : Value} : AW d 134 18 [x0, x1, x2, x3, x4, x5] (st) σ ρ g τ Q = AW d 134 19 [x0, x1, x2, x3, x4, x5] (.int (-1) :: st) σ ρ g τ Q := aw_lc m134 d134_18 rfl rfl rfl
theorem d134_19 : decode cX11_offer 19 = .ok (.ireturn, 1) := by decide +kernel
theorem s134_19 {d : Nat} {σ : am_I} {ρ : am_R} {g : am_J} {τ : am_T} {Q : am_Q} {x0 x1 x2 x3 x4 x5 : Value} {v : Int32} : AW d 134 19 [x0, x1, x2, x3, x4, x5] ([.int v]) σ ρ g τ Q = Q (some (.int v)) σ ρ g τ := aw_ri m134 d134_19 rfl
theorem d134_20 : decode cX11_offer 20 = .ok (.aload_n 0, 1) := by decide +kernel
theorem s134_20 {d : Nat} {st : List Value} {σ : am_I} {ρ : am_R} {g : am_J} {τ : am_T} {Q : am_Q} {x1 x2 x3 x4 x5 : Value} {v : Nat} : AW d 134 20 [.ref v, x1, x2, x3, x4, x5] (st) σ ρ g τ Q = AW d 134 21 [.ref v, x1, x2, x3, x4, x5] (.ref v :: st) σ ρ g τ Q := aw_lc m134 d134_20 rfl rfl rfl
theorem d134_21 : decode cX11_offer 21 = .ok (.getfield 10, 3) := by decide +kernel
theorem s134_21 {d : Nat} {st : List Value} {σ : am_I} {ρ : am_R} {g : am_J} {τ : am_T} {Q : am_Q} {x0 x1 x2 x3 x4 x5 : Value} {a : Nat} (ht : τ.1 a = 11) : AW d 134 21 [x0, x1, x2, x3, x4, x5] (.ref a :: st) σ ρ g τ Q = AW d 134 24 [x0, x1, x2, x3, x4, x5] (va_rf (ρ a 0) :: st) σ ρ g τ Q := aw_gr m134 d134_21 rfl rfl rfl ht
theorem d134_24 : decode cX11_offer 24 = .ok (.getfield 209, 3) := by decide +kernel
theorem s134_24 {d : Nat} {st : List Value} {σ : am_I} {ρ : am_R} {g : am_J} {τ : am_T} {Q : am_Q} {x0 x1 x2 x3 x4 x5 : Value} {a : Nat} (ht : τ.1 a = 3) : AW d 134 24 [x0, x1, x2, x3, x4, x5] (.ref a :: st) σ ρ g τ Q = AW d 134 27 [x0, x1, x2, x3, x4, x5] (va_rf (ρ a 7) :: st) σ ρ g τ Q := aw_gr m134 d134_24 rfl rfl rfl ht
theorem d134_27 : decode cX11_offer 27 = .ok (.iload_n 1, 1) := by decide +kernel
theorem s134_27 {d : Nat} {st : List Value} {σ : am_I} {ρ : am_R} {g : am_J} {τ : am_T} {Q : am_Q} {x0 x2 x3 x4 x5 : Value} {v : Int32} : AW d 134 27 [x0, .int v, x2, x3, x4, x5] (st) σ ρ g τ Q = AW d 134 28 [x0, .int v, x2, x3, x4, x5] (.int v :: st) σ ρ g τ Q := aw_lc m134 d134_27 rfl rfl rfl
theorem d134_28 : decode cX11_offer 28 = .ok (.aaload, 1) := by decide +kernel
theorem s134_28 {d : Nat} {st : List Value} {σ : am_I} {ρ : am_R} {g : am_J} {τ : am_T} {Q : am_Q} {x0 x1 x2 x3 x4 x5 : Value} {a : Nat} {j : Int32} (ht : 18 ≤ τ.1 a ∧ τ.1 a ≤ 22) (hj : am_inb j (τ.2.1 a) = true) : AW d 134 28 [x0, x1, x2, x3, x4, x5] (.int j :: .ref a :: st) σ ρ g τ Q = AW d 134 29 [x0, x1, x2, x3, x4, x5] (va_rf (ρ a j.toNatClampNeg) :: st) σ ρ g τ Q := aw_aal m134 d134_28 rfl ht hj
theorem d134_29 : decode cX11_offer 29 = .ok (.astore_n 3, 1) := by decide +kernel
theorem s134_29 {d : Nat} {st : List Value} {σ : am_I} {ρ : am_R} {g : am_J} {τ : am_T} {Q : am_Q} {x0 x1 x3 x4 x5 : Value} {v : Nat} {u : Int32} : AW d 134 29 [x0, x1, .int u, x3, x4, x5] (.ref v :: st) σ ρ g τ Q = AW d 134 30 [x0, x1, .int u, .ref v, x4, x5] (st) σ ρ g τ Q := aw_lc m134 d134_29 rfl rfl rfl
theorem d134_30 : decode cX11_offer 30 = .ok (.aload_n 3, 1) := by decide +kernel
theorem s134_30 {d : Nat} {st : List Value} {σ : am_I} {ρ : am_R} {g : am_J} {τ : am_T} {Q : am_Q} {x0 x1 x2 x4 x5 : Value} {v : Nat} : AW d 134 30 [x0, x1, x2, .ref v, x4, x5] (st) σ ρ g τ Q = AW d 134 31 [x0, x1, x2, .ref v, x4, x5] (.ref v :: st) σ ρ g τ Q := aw_lc m134 d134_30 rfl rfl rfl
theorem d134_31 : decode cX11_offer 31 = .ok (.getfield 217, 3) := by decide +kernel
theorem s134_31 {d : Nat} {st : List Value} {σ : am_I} {ρ : am_R} {g : am_J} {τ : am_T} {Q : am_Q} {x0 x1 x2 x3 x4 x5 : Value} {a : Nat} (ht : τ.1 a = 1) : AW d 134 31 [x0, x1, x2, x3, x4, x5] (.ref a :: st) σ ρ g τ Q = AW d 134 34 [x0, x1, x2, x3, x4, x5] (.int (σ a 1) :: st) σ ρ g τ Q := aw_gi m134 d134_31 rfl rfl rfl ht
theorem d134_34 : decode cX11_offer 34 = .ok (.ifCond .ne 10, 3) := by decide +kernel
theorem s134_34 {d : Nat} {st : List Value} {σ : am_I} {ρ : am_R} {g : am_J} {τ : am_T} {Q : am_Q} {x0 x1 x2 x3 x4 x5 : Value} {v : Int32} : AW d 134 34 [x0, x1, x2, x3, x4, x5] (.int v :: st) σ ρ g τ Q = if ¬ v = 0 then AW d 134 44 [x0, x1, x2, x3, x4, x5] (st) σ ρ g τ Q else AW d 134 37 [x0, x1, x2, x3, x4, x5] (st) σ ρ g τ Q := aw_br m134 d134_34 rfl rfl rfl
theorem d134_37 : decode cX11_offer 37 = .ok (.aload_n 3, 1) := by decide +kernel
theorem s134_37 {d : Nat} {st : List Value} {σ : am_I} {ρ : am_R} {g : am_J} {τ : am_T} {Q : am_Q} {x0 x1 x2 x4 x5 : Value} {v : Nat} : AW d 134 37 [x0, x1, x2, .ref v, x4, x5] (st) σ ρ g τ Q = AW d 134 38 [x0, x1, x2, .ref v, x4, x5] (.ref v :: st) σ ρ g τ Q := aw_lc m134 d134_37 rfl rfl rfl
theorem d134_38 : decode cX11_offer 38 = .ok (.getfield 253, 3) := by decide +kernel
theorem s134_38 {d : Nat} {st : List Value} {σ : am_I} {ρ : am_R} {g : am_J} {τ : am_T} {Q : am_Q} {x0 x1 x2 x3 x4 x5 : Value} {a : Nat} (ht : τ.1 a = 1) : AW d 134 38 [x0, x1, x2, x3, x4, x5] (.ref a :: st) σ ρ g τ Q = AW d 134 41 [x0, x1, x2, x3, x4, x5] (.int (σ a 8) :: st) σ ρ g τ Q := aw_gi m134 d134_38 rfl rfl rfl ht
theorem d134_41 : decode cX11_offer 41 = .ok (.ifCond .eq 6, 3) := by decide +kernel
theorem s134_41 {d : Nat} {st : List Value} {σ : am_I} {ρ : am_R} {g : am_J} {τ : am_T} {Q : am_Q} {x0 x1 x2 x3 x4 x5 : Value} {v : Int32} : AW d 134 41 [x0, x1, x2, x3, x4, x5] (.int v :: st) σ ρ g τ Q = if v = 0 then AW d 134 47 [x0, x1, x2, x3, x4, x5] (st) σ ρ g τ Q else AW d 134 44 [x0, x1, x2, x3, x4, x5] (st) σ ρ g τ Q := aw_br m134 d134_41 rfl rfl rfl
theorem d134_44 : decode cX11_offer 44 = .ok (.bipush (-4), 2) := by decide +kernel
theorem s134_44 {d : Nat} {st : List Value} {σ : am_I} {ρ : am_R} {g : am_J} {τ : am_T} {Q : am_Q} {x0 x1 x2 x3 x4 x5 : Value} : AW d 134 44 [x0, x1, x2, x3, x4, x5] (st) σ ρ g τ Q = AW d 134 46 [x0, x1, x2, x3, x4, x5] (.int (-4) :: st) σ ρ g τ Q := aw_lc m134 d134_44 rfl rfl rfl
theorem d134_46 : decode cX11_offer 46 = .ok (.ireturn, 1) := by decide +kernel
theorem s134_46 {d : Nat} {σ : am_I} {ρ : am_R} {g : am_J} {τ : am_T} {Q : am_Q} {x0 x1 x2 x3 x4 x5 : Value} {v : Int32} : AW d 134 46 [x0, x1, x2, x3, x4, x5] ([.int v]) σ ρ g τ Q = Q (some (.int v)) σ ρ g τ := aw_ri m134 d134_46 rfl
theorem d134_47 : decode cX11_offer 47 = .ok (.aload_n 0, 1) := by decide +kernel
theorem s134_47 {d : Nat} {st : List Value} {σ : am_I} {ρ : am_R} {g : am_J} {τ : am_T} {Q : am_Q} {x1 x2 x3 x4 x5 : Value} {v : Nat} : AW d 134 47 [.ref v, x1, x2, x3, x4, x5] (st) σ ρ g τ Q = AW d 134 48 [.ref v, x1, x2, x3, x4, x5] (.ref v :: st) σ ρ g τ Q := aw_lc m134 d134_47 rfl rfl rfl
theorem d134_48 : decode cX11_offer 48 = .ok (.getfield 10, 3) := by decide +kernel
theorem s134_48 {d : Nat} {st : List Value} {σ : am_I} {ρ : am_R} {g : am_J} {τ : am_T} {Q : am_Q} {x0 x1 x2 x3 x4 x5 : Value} {a : Nat} (ht : τ.1 a = 11) : AW d 134 48 [x0, x1, x2, x3, x4, x5] (.ref a :: st) σ ρ g τ Q = AW d 134 51 [x0, x1, x2, x3, x4, x5] (va_rf (ρ a 0) :: st) σ ρ g τ Q := aw_gr m134 d134_48 rfl rfl rfl ht
theorem d134_51 : decode cX11_offer 51 = .ok (.aload_n 3, 1) := by decide +kernel
theorem s134_51 {d : Nat} {st : List Value} {σ : am_I} {ρ : am_R} {g : am_J} {τ : am_T} {Q : am_Q} {x0 x1 x2 x4 x5 : Value} {v : Nat} : AW d 134 51 [x0, x1, x2, .ref v, x4, x5] (st) σ ρ g τ Q = AW d 134 52 [x0, x1, x2, .ref v, x4, x5] (.ref v :: st) σ ρ g τ Q := aw_lc m134 d134_51 rfl rfl rfl
theorem d134_52 : decode cX11_offer 52 = .ok (.invokevirtual 319, 3) := by decide +kernel
theorem s134_52 {d : Nat} {st : List Value} {σ : am_I} {ρ : am_R} {g : am_J} {τ : am_T} {Q : am_Q} {x0 x1 x2 x3 x4 x5 : Value} {p0 : Nat} {p1 : Nat} (ht : τ.1 p0 = 3) (hs : st.length ≤ 4) : AW (d + 1) 134 52 [x0, x1, x2, x3, x4, x5] (.ref p1 :: .ref p0 :: st) σ ρ g τ Q = AW d 35 0 [.ref p0, .ref p1] [] σ ρ g τ (fun r9 σ ρ g τ => AW (d + 1) 134 55 [x0, x1, x2, x3, x4, x5] (r9.toList ++ st) σ ρ g τ Q) := aw_cv m134 d134_52 rfl m35 rfl rfl (by decide) en35 ok35 rfl ht hs
theorem d134_55 : decode cX11_offer 55 = .ok (.istore 4, 2) := by decide +kernel
theorem s134_55r {d : Nat} {st : List Value} {σ : am_I} {ρ : am_R} {g : am_J} {τ : am_T} {Q : am_Q} {x0 x1 x2 x4 x5 : Value} {v : Int32} {u : Nat} : AW d 134 55 [x0, x1, x2, .ref u, x4, x5] (.int v :: st) σ ρ g τ Q = AW d 134 57 [x0, x1, x2, .ref u, .int v, x5] (st) σ ρ g τ Q := aw_lc m134 d134_55 rfl rfl rfl
theorem d134_57 : decode cX11_offer 57 = .ok (.iconst 1, 1) := by decide +kernel
theorem s134_57 {d : Nat} {st : List Value} {σ : am_I} {ρ : am_R} {g : am_J} {τ : am_T} {Q : am_Q} {x0 x1 x2 x3 x4 x5 : Value} : AW d 134 57 [x0, x1, x2, x3, x4, x5] (st) σ ρ g τ Q = AW d 134 58 [x0, x1, x2, x3, x4, x5] (.int 1 :: st) σ ρ g τ Q := aw_lc m134 d134_57 rfl rfl rfl
theorem d134_58 : decode cX11_offer 58 = .ok (.istore 5, 2) := by decide +kernel
theorem s134_58 {d : Nat} {st : List Value} {σ : am_I} {ρ : am_R} {g : am_J} {τ : am_T} {Q : am_Q} {x0 x1 x2 x3 x5 : Value} {v : Int32} {u : Int32} : AW d 134 58 [x0, x1, x2, x3, .int u, x5] (.int v :: st) σ ρ g τ Q = AW d 134 60 [x0, x1, x2, x3, .int u, .int v] (st) σ ρ g τ Q := aw_lc m134 d134_58 rfl rfl rfl
theorem d134_60 : decode cX11_offer 60 = .ok (.iload 5, 2) := by decide +kernel
theorem s134_60 {d : Nat} {st : List Value} {σ : am_I} {ρ : am_R} {g : am_J} {τ : am_T} {Q : am_Q} {x0 x1 x2 x3 x4 : Value} {v : Int32} : AW d 134 60 [x0, x1, x2, x3, x4, .int v] (st) σ ρ g τ Q = AW d 134 62 [x0, x1, x2, x3, x4, .int v] (.int v :: st) σ ρ g τ Q := aw_lc m134 d134_60 rfl rfl rfl
theorem d134_62 : decode cX11_offer 62 = .ok (.sipush 999, 3) := by decide +kernel
theorem s134_62 {d : Nat} {st : List Value} {σ : am_I} {ρ : am_R} {g : am_J} {τ : am_T} {Q : am_Q} {x0 x1 x2 x3 x4 x5 : Value} : AW d 134 62 [x0, x1, x2, x3, x4, x5] (st) σ ρ g τ Q = AW d 134 65 [x0, x1, x2, x3, x4, x5] (.int 999 :: st) σ ρ g τ Q := aw_lc m134 d134_62 rfl rfl rfl
theorem d134_65 : decode cX11_offer 65 = .ok (.if_icmp .gt 24, 3) := by decide +kernel
theorem s134_65 {d : Nat} {st : List Value} {σ : am_I} {ρ : am_R} {g : am_J} {τ : am_T} {Q : am_Q} {x0 x1 x2 x3 x4 x5 : Value} {v w : Int32} : AW d 134 65 [x0, x1, x2, x3, x4, x5] (.int w :: .int v :: st) σ ρ g τ Q = if w < v then AW d 134 89 [x0, x1, x2, x3, x4, x5] (st) σ ρ g τ Q else AW d 134 68 [x0, x1, x2, x3, x4, x5] (st) σ ρ g τ Q := aw_br m134 d134_65 rfl rfl rfl
theorem d134_68 : decode cX11_offer 68 = .ok (.iload 5, 2) := by decide +kernel
theorem s134_68 {d : Nat} {st : List Value} {σ : am_I} {ρ : am_R} {g : am_J} {τ : am_T} {Q : am_Q} {x0 x1 x2 x3 x4 : Value} {v : Int32} : AW d 134 68 [x0, x1, x2, x3, x4, .int v] (st) σ ρ g τ Q = AW d 134 70 [x0, x1, x2, x3, x4, .int v] (.int v :: st) σ ρ g τ Q := aw_lc m134 d134_68 rfl rfl rfl
theorem d134_70 : decode cX11_offer 70 = .ok (.bipush 100, 2) := by decide +kernel
theorem s134_70 {d : Nat} {st : List Value} {σ : am_I} {ρ : am_R} {g : am_J} {τ : am_T} {Q : am_Q} {x0 x1 x2 x3 x4 x5 : Value} : AW d 134 70 [x0, x1, x2, x3, x4, x5] (st) σ ρ g τ Q = AW d 134 72 [x0, x1, x2, x3, x4, x5] (.int 100 :: st) σ ρ g τ Q := aw_lc m134 d134_70 rfl rfl rfl
theorem d134_72 : decode cX11_offer 72 = .ok (.imul, 1) := by decide +kernel
theorem s134_72 {d : Nat} {st : List Value} {σ : am_I} {ρ : am_R} {g : am_J} {τ : am_T} {Q : am_Q} {x0 x1 x2 x3 x4 x5 : Value} {v w : Int32} : AW d 134 72 [x0, x1, x2, x3, x4, x5] (.int w :: .int v :: st) σ ρ g τ Q = AW d 134 73 [x0, x1, x2, x3, x4, x5] (.int (v * w) :: st) σ ρ g τ Q := aw_lc m134 d134_72 rfl rfl rfl
theorem d134_73 : decode cX11_offer 73 = .ok (.iload_n 2, 1) := by decide +kernel
theorem s134_73 {d : Nat} {st : List Value} {σ : am_I} {ρ : am_R} {g : am_J} {τ : am_T} {Q : am_Q} {x0 x1 x3 x4 x5 : Value} {v : Int32} : AW d 134 73 [x0, x1, .int v, x3, x4, x5] (st) σ ρ g τ Q = AW d 134 74 [x0, x1, .int v, x3, x4, x5] (.int v :: st) σ ρ g τ Q := aw_lc m134 d134_73 rfl rfl rfl
theorem d134_74 : decode cX11_offer 74 = .ok (.idiv, 1) := by decide +kernel
theorem s134_74 {d : Nat} {st : List Value} {σ : am_I} {ρ : am_R} {g : am_J} {τ : am_T} {Q : am_Q} {x0 x1 x2 x3 x4 x5 : Value} {v w : Int32} (h0 : ¬ w = 0) : AW d 134 74 [x0, x1, x2, x3, x4, x5] (.int w :: .int v :: st) σ ρ g τ Q = AW d 134 75 [x0, x1, x2, x3, x4, x5] (.int (v / w) :: st) σ ρ g τ Q := aw_div m134 d134_74 h0 rfl
theorem d134_75 : decode cX11_offer 75 = .ok (.iload 4, 2) := by decide +kernel
theorem s134_75 {d : Nat} {st : List Value} {σ : am_I} {ρ : am_R} {g : am_J} {τ : am_T} {Q : am_Q} {x0 x1 x2 x3 x5 : Value} {v : Int32} : AW d 134 75 [x0, x1, x2, x3, .int v, x5] (st) σ ρ g τ Q = AW d 134 77 [x0, x1, x2, x3, .int v, x5] (.int v :: st) σ ρ g τ Q := aw_lc m134 d134_75 rfl rfl rfl
theorem d134_77 : decode cX11_offer 77 = .ok (.if_icmp .lt 6, 3) := by decide +kernel
theorem s134_77 {d : Nat} {st : List Value} {σ : am_I} {ρ : am_R} {g : am_J} {τ : am_T} {Q : am_Q} {x0 x1 x2 x3 x4 x5 : Value} {v w : Int32} : AW d 134 77 [x0, x1, x2, x3, x4, x5] (.int w :: .int v :: st) σ ρ g τ Q = if v < w then AW d 134 83 [x0, x1, x2, x3, x4, x5] (st) σ ρ g τ Q else AW d 134 80 [x0, x1, x2, x3, x4, x5] (st) σ ρ g τ Q := aw_br m134 d134_77 rfl rfl rfl
theorem d134_80 : decode cX11_offer 80 = .ok (.iload 5, 2) := by decide +kernel
theorem s134_80 {d : Nat} {st : List Value} {σ : am_I} {ρ : am_R} {g : am_J} {τ : am_T} {Q : am_Q} {x0 x1 x2 x3 x4 : Value} {v : Int32} : AW d 134 80 [x0, x1, x2, x3, x4, .int v] (st) σ ρ g τ Q = AW d 134 82 [x0, x1, x2, x3, x4, .int v] (.int v :: st) σ ρ g τ Q := aw_lc m134 d134_80 rfl rfl rfl
theorem d134_82 : decode cX11_offer 82 = .ok (.ireturn, 1) := by decide +kernel
theorem s134_82 {d : Nat} {σ : am_I} {ρ : am_R} {g : am_J} {τ : am_T} {Q : am_Q} {x0 x1 x2 x3 x4 x5 : Value} {v : Int32} : AW d 134 82 [x0, x1, x2, x3, x4, x5] ([.int v]) σ ρ g τ Q = Q (some (.int v)) σ ρ g τ := aw_ri m134 d134_82 rfl
theorem d134_83 : decode cX11_offer 83 = .ok (.iinc 5 1, 3) := by decide +kernel
theorem s134_83 {d : Nat} {st : List Value} {σ : am_I} {ρ : am_R} {g : am_J} {τ : am_T} {Q : am_Q} {x0 x1 x2 x3 : Value} {v : Int32} {u : Int32} : AW d 134 83 [x0, x1, x2, x3, .int u, .int v] (st) σ ρ g τ Q = AW d 134 86 [x0, x1, x2, x3, .int u, .int (v + 1)] (st) σ ρ g τ Q := aw_lc m134 d134_83 rfl rfl rfl
theorem d134_86 : decode cX11_offer 86 = .ok (.goto (-26), 3) := by decide +kernel
theorem s134_86 {d : Nat} {st : List Value} {σ : am_I} {ρ : am_R} {g : am_J} {τ : am_T} {Q : am_Q} {x0 x1 x2 x3 x4 x5 : Value} : AW d 134 86 [x0, x1, x2, x3, x4, x5] (st) σ ρ g τ Q = AW d 134 60 [x0, x1, x2, x3, x4, x5] (st) σ ρ g τ Q := aw_lc m134 d134_86 rfl rfl rfl
theorem d134_89 : decode cX11_offer 89 = .ok (.bipush (-3), 2) := by decide +kernel
theorem s134_89 {d : Nat} {st : List Value} {σ : am_I} {ρ : am_R} {g : am_J} {τ : am_T} {Q : am_Q} {x0 x1 x2 x3 x4 x5 : Value} : AW d 134 89 [x0, x1, x2, x3, x4, x5] (st) σ ρ g τ Q = AW d 134 91 [x0, x1, x2, x3, x4, x5] (.int (-3) :: st) σ ρ g τ Q := aw_lc m134 d134_89 rfl rfl rfl
theorem d134_91 : decode cX11_offer 91 = .ok (.ireturn, 1) := by decide +kernel
theorem s134_91 {d : Nat} {σ : am_I} {ρ : am_R} {g : am_J} {τ : am_T} {Q : am_Q} {x0 x1 x2 x3 x4 x5 : Value} {v : Int32} : AW d 134 91 [x0, x1, x2, x3, x4, x5] ([.int v]) σ ρ g τ Q = Q (some (.int v)) σ ρ g τ := aw_ri m134 d134_91 rfl
theorem d135_0 : decode cX11_railway 0 = .ok (.aload_n 0, 1) := by decide +kernel
theorem s135_0 {d : Nat} {st : List Value} {σ : am_I} {ρ : am_R} {g : am_J} {τ : am_T} {Q : am_Q} {x1 x2 x3 x4 : Value} {v : Nat} : AW d 135 0 [.ref v, x1, x2, x3, x4] (st) σ ρ g τ Q = AW d 135 1 [.ref v, x1, x2, x3, x4] (.ref v :: st) σ ρ g τ Q := aw_lc m135 d135_0 rfl rfl rfl
theorem d135_1 : decode cX11_railway 1 = .ok (.getfield 10, 3) := by decide +kernel
theorem s135_1 {d : Nat} {st : List Value} {σ : am_I} {ρ : am_R} {g : am_J} {τ : am_T} {Q : am_Q} {x0 x1 x2 x3 x4 : Value} {a : Nat} (ht : τ.1 a = 11) : AW d 135 1 [x0, x1, x2, x3, x4] (.ref a :: st) σ ρ g τ Q = AW d 135 4 [x0, x1, x2, x3, x4] (va_rf (ρ a 0) :: st) σ ρ g τ Q := aw_gr m135 d135_1 rfl rfl rfl ht
theorem d135_4 : decode cX11_railway 4 = .ok (.iload_n 1, 1) := by decide +kernel
theorem s135_4 {d : Nat} {st : List Value} {σ : am_I} {ρ : am_R} {g : am_J} {τ : am_T} {Q : am_Q} {x0 x2 x3 x4 : Value} {v : Int32} : AW d 135 4 [x0, .int v, x2, x3, x4] (st) σ ρ g τ Q = AW d 135 5 [x0, .int v, x2, x3, x4] (.int v :: st) σ ρ g τ Q := aw_lc m135 d135_4 rfl rfl rfl
theorem d135_5 : decode cX11_railway 5 = .ok (.invokevirtual 122, 3) := by decide +kernel
theorem s135_5 {d : Nat} {st : List Value} {σ : am_I} {ρ : am_R} {g : am_J} {τ : am_T} {Q : am_Q} {x0 x1 x2 x3 x4 : Value} {p0 : Nat} {p1 : Int32} (ht : τ.1 p0 = 3) (hs : st.length ≤ 4) : AW (d + 1) 135 5 [x0, x1, x2, x3, x4] (.int p1 :: .ref p0 :: st) σ ρ g τ Q = AW d 23 0 [.ref p0, .int p1] [] σ ρ g τ (fun r9 σ ρ g τ => AW (d + 1) 135 8 [x0, x1, x2, x3, x4] (r9.toList ++ st) σ ρ g τ Q) := aw_cv m135 d135_5 rfl m23 rfl rfl (by decide) en23 ok23 rfl ht hs
theorem d135_8 : decode cX11_railway 8 = .ok (.ifCond .eq 24, 3) := by decide +kernel
theorem s135_8 {d : Nat} {st : List Value} {σ : am_I} {ρ : am_R} {g : am_J} {τ : am_T} {Q : am_Q} {x0 x1 x2 x3 x4 : Value} {v : Int32} : AW d 135 8 [x0, x1, x2, x3, x4] (.int v :: st) σ ρ g τ Q = if v = 0 then AW d 135 32 [x0, x1, x2, x3, x4] (st) σ ρ g τ Q else AW d 135 11 [x0, x1, x2, x3, x4] (st) σ ρ g τ Q := aw_br m135 d135_8 rfl rfl rfl
theorem d135_11 : decode cX11_railway 11 = .ok (.iload_n 2, 1) := by decide +kernel
theorem s135_11 {d : Nat} {st : List Value} {σ : am_I} {ρ : am_R} {g : am_J} {τ : am_T} {Q : am_Q} {x0 x1 x3 x4 : Value} {v : Int32} : AW d 135 11 [x0, x1, .int v, x3, x4] (st) σ ρ g τ Q = AW d 135 12 [x0, x1, .int v, x3, x4] (.int v :: st) σ ρ g τ Q := aw_lc m135 d135_11 rfl rfl rfl
theorem d135_12 : decode cX11_railway 12 = .ok (.iconst 0, 1) := by decide +kernel
theorem s135_12 {d : Nat} {st : List Value} {σ : am_I} {ρ : am_R} {g : am_J} {τ : am_T} {Q : am_Q} {x0 x1 x2 x3 x4 : Value} : AW d 135 12 [x0, x1, x2, x3, x4] (st) σ ρ g τ Q = AW d 135 13 [x0, x1, x2, x3, x4] (.int 0 :: st) σ ρ g τ Q := aw_lc m135 d135_12 rfl rfl rfl
theorem d135_13 : decode cX11_railway 13 = .ok (.sipush 400, 3) := by decide +kernel
theorem s135_13 {d : Nat} {st : List Value} {σ : am_I} {ρ : am_R} {g : am_J} {τ : am_T} {Q : am_Q} {x0 x1 x2 x3 x4 : Value} : AW d 135 13 [x0, x1, x2, x3, x4] (st) σ ρ g τ Q = AW d 135 16 [x0, x1, x2, x3, x4] (.int 400 :: st) σ ρ g τ Q := aw_lc m135 d135_13 rfl rfl rfl
theorem d135_16 : decode cX11_railway 16 = .ok (.invokestatic 74, 3) := by decide +kernel
theorem s135_16 {d : Nat} {st : List Value} {σ : am_I} {ρ : am_R} {g : am_J} {τ : am_T} {Q : am_Q} {x0 x1 x2 x3 x4 : Value} {p0 : Int32} {p1 : Int32} {p2 : Int32} (hs : st.length ≤ 4) : AW (d + 1) 135 16 [x0, x1, x2, x3, x4] (.int p2 :: .int p1 :: .int p0 :: st) σ ρ g τ Q = AW d 100 0 [.int p0, .int p1, .int p2] [] σ ρ g τ (fun r9 σ ρ g τ => AW (d + 1) 135 19 [x0, x1, x2, x3, x4] (r9.toList ++ st) σ ρ g τ Q) := aw_cs m135 d135_16 rfl (by simp only [List.length_cons]; omega) rfl rfl en100 ok100 rfl hs
theorem d135_19 : decode cX11_railway 19 = .ok (.ifCond .eq 13, 3) := by decide +kernel
theorem s135_19 {d : Nat} {st : List Value} {σ : am_I} {ρ : am_R} {g : am_J} {τ : am_T} {Q : am_Q} {x0 x1 x2 x3 x4 : Value} {v : Int32} : AW d 135 19 [x0, x1, x2, x3, x4] (.int v :: st) σ ρ g τ Q = if v = 0 then AW d 135 32 [x0, x1, x2, x3, x4] (st) σ ρ g τ Q else AW d 135 22 [x0, x1, x2, x3, x4] (st) σ ρ g τ Q := aw_br m135 d135_19 rfl rfl rfl
theorem d135_22 : decode cX11_railway 22 = .ok (.iload_n 3, 1) := by decide +kernel
theorem s135_22 {d : Nat} {st : List Value} {σ : am_I} {ρ : am_R} {g : am_J} {τ : am_T} {Q : am_Q} {x0 x1 x2 x4 : Value} {v : Int32} : AW d 135 22 [x0, x1, x2, .int v, x4] (st) σ ρ g τ Q = AW d 135 23 [x0, x1, x2, .int v, x4] (.int v :: st) σ ρ g τ Q := aw_lc m135 d135_22 rfl rfl rfl
theorem d135_23 : decode cX11_railway 23 = .ok (.iconst 1, 1) := by decide +kernel
theorem s135_23 {d : Nat} {st : List Value} {σ : am_I} {ρ : am_R} {g : am_J} {τ : am_T} {Q : am_Q} {x0 x1 x2 x3 x4 : Value} : AW d 135 23 [x0, x1, x2, x3, x4] (st) σ ρ g τ Q = AW d 135 24 [x0, x1, x2, x3, x4] (.int 1 :: st) σ ρ g τ Q := aw_lc m135 d135_23 rfl rfl rfl
theorem d135_24 : decode cX11_railway 24 = .ok (.bipush 99, 2) := by decide +kernel
theorem s135_24 {d : Nat} {st : List Value} {σ : am_I} {ρ : am_R} {g : am_J} {τ : am_T} {Q : am_Q} {x0 x1 x2 x3 x4 : Value} : AW d 135 24 [x0, x1, x2, x3, x4] (st) σ ρ g τ Q = AW d 135 26 [x0, x1, x2, x3, x4] (.int 99 :: st) σ ρ g τ Q := aw_lc m135 d135_24 rfl rfl rfl
theorem d135_26 : decode cX11_railway 26 = .ok (.invokestatic 74, 3) := by decide +kernel
theorem s135_26 {d : Nat} {st : List Value} {σ : am_I} {ρ : am_R} {g : am_J} {τ : am_T} {Q : am_Q} {x0 x1 x2 x3 x4 : Value} {p0 : Int32} {p1 : Int32} {p2 : Int32} (hs : st.length ≤ 4) : AW (d + 1) 135 26 [x0, x1, x2, x3, x4] (.int p2 :: .int p1 :: .int p0 :: st) σ ρ g τ Q = AW d 100 0 [.int p0, .int p1, .int p2] [] σ ρ g τ (fun r9 σ ρ g τ => AW (d + 1) 135 29 [x0, x1, x2, x3, x4] (r9.toList ++ st) σ ρ g τ Q) := aw_cs m135 d135_26 rfl (by simp only [List.length_cons]; omega) rfl rfl en100 ok100 rfl hs
theorem d135_29 : decode cX11_railway 29 = .ok (.ifCond .ne 5, 3) := by decide +kernel
theorem s135_29 {d : Nat} {st : List Value} {σ : am_I} {ρ : am_R} {g : am_J} {τ : am_T} {Q : am_Q} {x0 x1 x2 x3 x4 : Value} {v : Int32} : AW d 135 29 [x0, x1, x2, x3, x4] (.int v :: st) σ ρ g τ Q = if ¬ v = 0 then AW d 135 34 [x0, x1, x2, x3, x4] (st) σ ρ g τ Q else AW d 135 32 [x0, x1, x2, x3, x4] (st) σ ρ g τ Q := aw_br m135 d135_29 rfl rfl rfl
theorem d135_32 : decode cX11_railway 32 = .ok (.iconst (-1), 1) := by decide +kernel
theorem s135_32 {d : Nat} {st : List Value} {σ : am_I} {ρ : am_R} {g : am_J} {τ : am_T} {Q : am_Q} {x0 x1 x2 x3 x4 : Value} : AW d 135 32 [x0, x1, x2, x3, x4] (st) σ ρ g τ Q = AW d 135 33 [x0, x1, x2, x3, x4] (.int (-1) :: st) σ ρ g τ Q := aw_lc m135 d135_32 rfl rfl rfl
theorem d135_33 : decode cX11_railway 33 = .ok (.ireturn, 1) := by decide +kernel
theorem s135_33 {d : Nat} {σ : am_I} {ρ : am_R} {g : am_J} {τ : am_T} {Q : am_Q} {x0 x1 x2 x3 x4 : Value} {v : Int32} : AW d 135 33 [x0, x1, x2, x3, x4] ([.int v]) σ ρ g τ Q = Q (some (.int v)) σ ρ g τ := aw_ri m135 d135_33 rfl
theorem d135_34 : decode cX11_railway 34 = .ok (.aload_n 0, 1) := by decide +kernel
theorem s135_34 {d : Nat} {st : List Value} {σ : am_I} {ρ : am_R} {g : am_J} {τ : am_T} {Q : am_Q} {x1 x2 x3 x4 : Value} {v : Nat} : AW d 135 34 [.ref v, x1, x2, x3, x4] (st) σ ρ g τ Q = AW d 135 35 [.ref v, x1, x2, x3, x4] (.ref v :: st) σ ρ g τ Q := aw_lc m135 d135_34 rfl rfl rfl
theorem d135_35 : decode cX11_railway 35 = .ok (.getfield 10, 3) := by decide +kernel
theorem s135_35 {d : Nat} {st : List Value} {σ : am_I} {ρ : am_R} {g : am_J} {τ : am_T} {Q : am_Q} {x0 x1 x2 x3 x4 : Value} {a : Nat} (ht : τ.1 a = 11) : AW d 135 35 [x0, x1, x2, x3, x4] (.ref a :: st) σ ρ g τ Q = AW d 135 38 [x0, x1, x2, x3, x4] (va_rf (ρ a 0) :: st) σ ρ g τ Q := aw_gr m135 d135_35 rfl rfl rfl ht
theorem d135_38 : decode cX11_railway 38 = .ok (.getfield 323, 3) := by decide +kernel
theorem s135_38 {d : Nat} {st : List Value} {σ : am_I} {ρ : am_R} {g : am_J} {τ : am_T} {Q : am_Q} {x0 x1 x2 x3 x4 : Value} {a : Nat} (ht : τ.1 a = 3) : AW d 135 38 [x0, x1, x2, x3, x4] (.ref a :: st) σ ρ g τ Q = AW d 135 41 [x0, x1, x2, x3, x4] (va_rf (ρ a 12) :: st) σ ρ g τ Q := aw_gr m135 d135_38 rfl rfl rfl ht
theorem d135_41 : decode cX11_railway 41 = .ok (.invokevirtual 326, 3) := by decide +kernel
theorem s135_41 {d : Nat} {st : List Value} {σ : am_I} {ρ : am_R} {g : am_J} {τ : am_T} {Q : am_Q} {x0 x1 x2 x3 x4 : Value} {p0 : Nat} (ht : τ.1 p0 = 4) (hs : st.length ≤ 4) : AW (d + 1) 135 41 [x0, x1, x2, x3, x4] (.ref p0 :: st) σ ρ g τ Q = AW d 43 0 [.ref p0] [] σ ρ g τ (fun r9 σ ρ g τ => AW (d + 1) 135 44 [x0, x1, x2, x3, x4] (r9.toList ++ st) σ ρ g τ Q) := aw_cv m135 d135_41 rfl m43 rfl rfl (by decide) en43 ok43 rfl ht hs
theorem d135_44 : decode cX11_railway 44 = .ok (.ifCond .eq 6, 3) := by decide +kernel
theorem s135_44 {d : Nat} {st : List Value} {σ : am_I} {ρ : am_R} {g : am_J} {τ : am_T} {Q : am_Q} {x0 x1 x2 x3 x4 : Value} {v : Int32} : AW d 135 44 [x0, x1, x2, x3, x4] (.int v :: st) σ ρ g τ Q = if v = 0 then AW d 135 50 [x0, x1, x2, x3, x4] (st) σ ρ g τ Q else AW d 135 47 [x0, x1, x2, x3, x4] (st) σ ρ g τ Q := aw_br m135 d135_44 rfl rfl rfl
theorem d135_47 : decode cX11_railway 47 = .ok (.bipush (-2), 2) := by decide +kernel
theorem s135_47 {d : Nat} {st : List Value} {σ : am_I} {ρ : am_R} {g : am_J} {τ : am_T} {Q : am_Q} {x0 x1 x2 x3 x4 : Value} : AW d 135 47 [x0, x1, x2, x3, x4] (st) σ ρ g τ Q = AW d 135 49 [x0, x1, x2, x3, x4] (.int (-2) :: st) σ ρ g τ Q := aw_lc m135 d135_47 rfl rfl rfl
theorem d135_49 : decode cX11_railway 49 = .ok (.ireturn, 1) := by decide +kernel
theorem s135_49 {d : Nat} {σ : am_I} {ρ : am_R} {g : am_J} {τ : am_T} {Q : am_Q} {x0 x1 x2 x3 x4 : Value} {v : Int32} : AW d 135 49 [x0, x1, x2, x3, x4] ([.int v]) σ ρ g τ Q = Q (some (.int v)) σ ρ g τ := aw_ri m135 d135_49 rfl
theorem d135_50 : decode cX11_railway 50 = .ok (.aload_n 0, 1) := by decide +kernel
theorem s135_50 {d : Nat} {st : List Value} {σ : am_I} {ρ : am_R} {g : am_J} {τ : am_T} {Q : am_Q} {x1 x2 x3 x4 : Value} {v : Nat} : AW d 135 50 [.ref v, x1, x2, x3, x4] (st) σ ρ g τ Q = AW d 135 51 [.ref v, x1, x2, x3, x4] (.ref v :: st) σ ρ g τ Q := aw_lc m135 d135_50 rfl rfl rfl
theorem d135_51 : decode cX11_railway 51 = .ok (.getfield 10, 3) := by decide +kernel
theorem s135_51 {d : Nat} {st : List Value} {σ : am_I} {ρ : am_R} {g : am_J} {τ : am_T} {Q : am_Q} {x0 x1 x2 x3 x4 : Value} {a : Nat} (ht : τ.1 a = 11) : AW d 135 51 [x0, x1, x2, x3, x4] (.ref a :: st) σ ρ g τ Q = AW d 135 54 [x0, x1, x2, x3, x4] (va_rf (ρ a 0) :: st) σ ρ g τ Q := aw_gr m135 d135_51 rfl rfl rfl ht
theorem d135_54 : decode cX11_railway 54 = .ok (.getfield 323, 3) := by decide +kernel
theorem s135_54 {d : Nat} {st : List Value} {σ : am_I} {ρ : am_R} {g : am_J} {τ : am_T} {Q : am_Q} {x0 x1 x2 x3 x4 : Value} {a : Nat} (ht : τ.1 a = 3) : AW d 135 54 [x0, x1, x2, x3, x4] (.ref a :: st) σ ρ g τ Q = AW d 135 57 [x0, x1, x2, x3, x4] (va_rf (ρ a 12) :: st) σ ρ g τ Q := aw_gr m135 d135_54 rfl rfl rfl ht
theorem d135_57 : decode cX11_railway 57 = .ok (.invokevirtual 329, 3) := by decide +kernel
theorem s135_57 {d : Nat} {st : List Value} {σ : am_I} {ρ : am_R} {g : am_J} {τ : am_T} {Q : am_Q} {x0 x1 x2 x3 x4 : Value} {p0 : Nat} (ht : τ.1 p0 = 4) (hs : st.length ≤ 4) : AW (d + 1) 135 57 [x0, x1, x2, x3, x4] (.ref p0 :: st) σ ρ g τ Q = AW d 45 0 [.ref p0] [] σ ρ g τ (fun r9 σ ρ g τ => AW (d + 1) 135 60 [x0, x1, x2, x3, x4] (r9.toList ++ st) σ ρ g τ Q) := aw_cv m135 d135_57 rfl m45 rfl rfl (by decide) en45 ok45 rfl ht hs
theorem d135_60 : decode cX11_railway 60 = .ok (.istore 4, 2) := by decide +kernel
theorem s135_60 {d : Nat} {st : List Value} {σ : am_I} {ρ : am_R} {g : am_J} {τ : am_T} {Q : am_Q} {x0 x1 x2 x4 : Value} {v : Int32} {u : Int32} : AW d 135 60 [x0, x1, x2, .int u, x4] (.int v :: st) σ ρ g τ Q = AW d 135 62 [x0, x1, x2, .int u, .int v] (st) σ ρ g τ Q := aw_lc m135 d135_60 rfl rfl rfl
theorem d135_62 : decode cX11_railway 62 = .ok (.aload_n 0, 1) := by decide +kernel
theorem s135_62 {d : Nat} {st : List Value} {σ : am_I} {ρ : am_R} {g : am_J} {τ : am_T} {Q : am_Q} {x1 x2 x3 x4 : Value} {v : Nat} : AW d 135 62 [.ref v, x1, x2, x3, x4] (st) σ ρ g τ Q = AW d 135 63 [.ref v, x1, x2, x3, x4] (.ref v :: st) σ ρ g τ Q := aw_lc m135 d135_62 rfl rfl rfl
theorem d135_63 : decode cX11_railway 63 = .ok (.getfield 10, 3) := by decide +kernel
theorem s135_63 {d : Nat} {st : List Value} {σ : am_I} {ρ : am_R} {g : am_J} {τ : am_T} {Q : am_Q} {x0 x1 x2 x3 x4 : Value} {a : Nat} (ht : τ.1 a = 11) : AW d 135 63 [x0, x1, x2, x3, x4] (.ref a :: st) σ ρ g τ Q = AW d 135 66 [x0, x1, x2, x3, x4] (va_rf (ρ a 0) :: st) σ ρ g τ Q := aw_gr m135 d135_63 rfl rfl rfl ht
theorem d135_66 : decode cX11_railway 66 = .ok (.getfield 323, 3) := by decide +kernel
theorem s135_66 {d : Nat} {st : List Value} {σ : am_I} {ρ : am_R} {g : am_J} {τ : am_T} {Q : am_Q} {x0 x1 x2 x3 x4 : Value} {a : Nat} (ht : τ.1 a = 3) : AW d 135 66 [x0, x1, x2, x3, x4] (.ref a :: st) σ ρ g τ Q = AW d 135 69 [x0, x1, x2, x3, x4] (va_rf (ρ a 12) :: st) σ ρ g τ Q := aw_gr m135 d135_66 rfl rfl rfl ht
theorem d135_69 : decode cX11_railway 69 = .ok (.iload 4, 2) := by decide +kernel
theorem s135_69 {d : Nat} {st : List Value} {σ : am_I} {ρ : am_R} {g : am_J} {τ : am_T} {Q : am_Q} {x0 x1 x2 x3 : Value} {v : Int32} : AW d 135 69 [x0, x1, x2, x3, .int v] (st) σ ρ g τ Q = AW d 135 71 [x0, x1, x2, x3, .int v] (.int v :: st) σ ρ g τ Q := aw_lc m135 d135_69 rfl rfl rfl
theorem d135_71 : decode cX11_railway 71 = .ok (.iconst 0, 1) := by decide +kernel
theorem s135_71 {d : Nat} {st : List Value} {σ : am_I} {ρ : am_R} {g : am_J} {τ : am_T} {Q : am_Q} {x0 x1 x2 x3 x4 : Value} : AW d 135 71 [x0, x1, x2, x3, x4] (st) σ ρ g τ Q = AW d 135 72 [x0, x1, x2, x3, x4] (.int 0 :: st) σ ρ g τ Q := aw_lc m135 d135_71 rfl rfl rfl
theorem d135_72 : decode cX11_railway 72 = .ok (.iload_n 1, 1) := by decide +kernel
theorem s135_72 {d : Nat} {st : List Value} {σ : am_I} {ρ : am_R} {g : am_J} {τ : am_T} {Q : am_Q} {x0 x2 x3 x4 : Value} {v : Int32} : AW d 135 72 [x0, .int v, x2, x3, x4] (st) σ ρ g τ Q = AW d 135 73 [x0, .int v, x2, x3, x4] (.int v :: st) σ ρ g τ Q := aw_lc m135 d135_72 rfl rfl rfl
theorem d135_73 : decode cX11_railway 73 = .ok (.invokevirtual 332, 3) := by decide +kernel
theorem s135_73 {d : Nat} {st : List Value} {σ : am_I} {ρ : am_R} {g : am_J} {τ : am_T} {Q : am_Q} {x0 x1 x2 x3 x4 : Value} {p0 : Nat} {p1 : Int32} {p2 : Int32} {p3 : Int32} (ht : τ.1 p0 = 4) (hs : st.length ≤ 4) : AW (d + 1) 135 73 [x0, x1, x2, x3, x4] (.int p3 :: .int p2 :: .int p1 :: .ref p0 :: st) σ ρ g τ Q = AW d 47 0 [.ref p0, .int p1, .int p2, .int p3] [] σ ρ g τ (fun r9 σ ρ g τ => AW (d + 1) 135 76 [x0, x1, x2, x3, x4] (r9.toList ++ st) σ ρ g τ Q) := aw_cv m135 d135_73 rfl m47 rfl rfl (by decide) en47 ok47 rfl ht hs
theorem d135_76 : decode cX11_railway 76 = .ok (.aload_n 0, 1) := by decide +kernel
theorem s135_76 {d : Nat} {st : List Value} {σ : am_I} {ρ : am_R} {g : am_J} {τ : am_T} {Q : am_Q} {x1 x2 x3 x4 : Value} {v : Nat} : AW d 135 76 [.ref v, x1, x2, x3, x4] (st) σ ρ g τ Q = AW d 135 77 [.ref v, x1, x2, x3, x4] (.ref v :: st) σ ρ g τ Q := aw_lc m135 d135_76 rfl rfl rfl
theorem d135_77 : decode cX11_railway 77 = .ok (.getfield 10, 3) := by decide +kernel
theorem s135_77 {d : Nat} {st : List Value} {σ : am_I} {ρ : am_R} {g : am_J} {τ : am_T} {Q : am_Q} {x0 x1 x2 x3 x4 : Value} {a : Nat} (ht : τ.1 a = 11) : AW d 135 77 [x0, x1, x2, x3, x4] (.ref a :: st) σ ρ g τ Q = AW d 135 80 [x0, x1, x2, x3, x4] (va_rf (ρ a 0) :: st) σ ρ g τ Q := aw_gr m135 d135_77 rfl rfl rfl ht
theorem d135_80 : decode cX11_railway 80 = .ok (.getfield 323, 3) := by decide +kernel
theorem s135_80 {d : Nat} {st : List Value} {σ : am_I} {ρ : am_R} {g : am_J} {τ : am_T} {Q : am_Q} {x0 x1 x2 x3 x4 : Value} {a : Nat} (ht : τ.1 a = 3) : AW d 135 80 [x0, x1, x2, x3, x4] (.ref a :: st) σ ρ g τ Q = AW d 135 83 [x0, x1, x2, x3, x4] (va_rf (ρ a 12) :: st) σ ρ g τ Q := aw_gr m135 d135_80 rfl rfl rfl ht
theorem d135_83 : decode cX11_railway 83 = .ok (.iload 4, 2) := by decide +kernel
theorem s135_83 {d : Nat} {st : List Value} {σ : am_I} {ρ : am_R} {g : am_J} {τ : am_T} {Q : am_Q} {x0 x1 x2 x3 : Value} {v : Int32} : AW d 135 83 [x0, x1, x2, x3, .int v] (st) σ ρ g τ Q = AW d 135 85 [x0, x1, x2, x3, .int v] (.int v :: st) σ ρ g τ Q := aw_lc m135 d135_83 rfl rfl rfl
theorem d135_85 : decode cX11_railway 85 = .ok (.iconst 1, 1) := by decide +kernel
theorem s135_85 {d : Nat} {st : List Value} {σ : am_I} {ρ : am_R} {g : am_J} {τ : am_T} {Q : am_Q} {x0 x1 x2 x3 x4 : Value} : AW d 135 85 [x0, x1, x2, x3, x4] (st) σ ρ g τ Q = AW d 135 86 [x0, x1, x2, x3, x4] (.int 1 :: st) σ ρ g τ Q := aw_lc m135 d135_85 rfl rfl rfl
theorem d135_86 : decode cX11_railway 86 = .ok (.iload_n 2, 1) := by decide +kernel
theorem s135_86 {d : Nat} {st : List Value} {σ : am_I} {ρ : am_R} {g : am_J} {τ : am_T} {Q : am_Q} {x0 x1 x3 x4 : Value} {v : Int32} : AW d 135 86 [x0, x1, .int v, x3, x4] (st) σ ρ g τ Q = AW d 135 87 [x0, x1, .int v, x3, x4] (.int v :: st) σ ρ g τ Q := aw_lc m135 d135_86 rfl rfl rfl
theorem d135_87 : decode cX11_railway 87 = .ok (.invokevirtual 332, 3) := by decide +kernel
theorem s135_87 {d : Nat} {st : List Value} {σ : am_I} {ρ : am_R} {g : am_J} {τ : am_T} {Q : am_Q} {x0 x1 x2 x3 x4 : Value} {p0 : Nat} {p1 : Int32} {p2 : Int32} {p3 : Int32} (ht : τ.1 p0 = 4) (hs : st.length ≤ 4) : AW (d + 1) 135 87 [x0, x1, x2, x3, x4] (.int p3 :: .int p2 :: .int p1 :: .ref p0 :: st) σ ρ g τ Q = AW d 47 0 [.ref p0, .int p1, .int p2, .int p3] [] σ ρ g τ (fun r9 σ ρ g τ => AW (d + 1) 135 90 [x0, x1, x2, x3, x4] (r9.toList ++ st) σ ρ g τ Q) := aw_cv m135 d135_87 rfl m47 rfl rfl (by decide) en47 ok47 rfl ht hs
theorem d135_90 : decode cX11_railway 90 = .ok (.aload_n 0, 1) := by decide +kernel
theorem s135_90 {d : Nat} {st : List Value} {σ : am_I} {ρ : am_R} {g : am_J} {τ : am_T} {Q : am_Q} {x1 x2 x3 x4 : Value} {v : Nat} : AW d 135 90 [.ref v, x1, x2, x3, x4] (st) σ ρ g τ Q = AW d 135 91 [.ref v, x1, x2, x3, x4] (.ref v :: st) σ ρ g τ Q := aw_lc m135 d135_90 rfl rfl rfl
theorem d135_91 : decode cX11_railway 91 = .ok (.getfield 10, 3) := by decide +kernel
theorem s135_91 {d : Nat} {st : List Value} {σ : am_I} {ρ : am_R} {g : am_J} {τ : am_T} {Q : am_Q} {x0 x1 x2 x3 x4 : Value} {a : Nat} (ht : τ.1 a = 11) : AW d 135 91 [x0, x1, x2, x3, x4] (.ref a :: st) σ ρ g τ Q = AW d 135 94 [x0, x1, x2, x3, x4] (va_rf (ρ a 0) :: st) σ ρ g τ Q := aw_gr m135 d135_91 rfl rfl rfl ht
theorem d135_94 : decode cX11_railway 94 = .ok (.getfield 323, 3) := by decide +kernel
theorem s135_94 {d : Nat} {st : List Value} {σ : am_I} {ρ : am_R} {g : am_J} {τ : am_T} {Q : am_Q} {x0 x1 x2 x3 x4 : Value} {a : Nat} (ht : τ.1 a = 3) : AW d 135 94 [x0, x1, x2, x3, x4] (.ref a :: st) σ ρ g τ Q = AW d 135 97 [x0, x1, x2, x3, x4] (va_rf (ρ a 12) :: st) σ ρ g τ Q := aw_gr m135 d135_94 rfl rfl rfl ht
theorem d135_97 : decode cX11_railway 97 = .ok (.iload 4, 2) := by decide +kernel
theorem s135_97 {d : Nat} {st : List Value} {σ : am_I} {ρ : am_R} {g : am_J} {τ : am_T} {Q : am_Q} {x0 x1 x2 x3 : Value} {v : Int32} : AW d 135 97 [x0, x1, x2, x3, .int v] (st) σ ρ g τ Q = AW d 135 99 [x0, x1, x2, x3, .int v] (.int v :: st) σ ρ g τ Q := aw_lc m135 d135_97 rfl rfl rfl
theorem d135_99 : decode cX11_railway 99 = .ok (.iconst 2, 1) := by decide +kernel
theorem s135_99 {d : Nat} {st : List Value} {σ : am_I} {ρ : am_R} {g : am_J} {τ : am_T} {Q : am_Q} {x0 x1 x2 x3 x4 : Value} : AW d 135 99 [x0, x1, x2, x3, x4] (st) σ ρ g τ Q = AW d 135 100 [x0, x1, x2, x3, x4] (.int 2 :: st) σ ρ g τ Q := aw_lc m135 d135_99 rfl rfl rfl
theorem d135_100 : decode cX11_railway 100 = .ok (.iload_n 3, 1) := by decide +kernel
theorem s135_100 {d : Nat} {st : List Value} {σ : am_I} {ρ : am_R} {g : am_J} {τ : am_T} {Q : am_Q} {x0 x1 x2 x4 : Value} {v : Int32} : AW d 135 100 [x0, x1, x2, .int v, x4] (st) σ ρ g τ Q = AW d 135 101 [x0, x1, x2, .int v, x4] (.int v :: st) σ ρ g τ Q := aw_lc m135 d135_100 rfl rfl rfl
theorem d135_101 : decode cX11_railway 101 = .ok (.invokevirtual 332, 3) := by decide +kernel
theorem s135_101 {d : Nat} {st : List Value} {σ : am_I} {ρ : am_R} {g : am_J} {τ : am_T} {Q : am_Q} {x0 x1 x2 x3 x4 : Value} {p0 : Nat} {p1 : Int32} {p2 : Int32} {p3 : Int32} (ht : τ.1 p0 = 4) (hs : st.length ≤ 4) : AW (d + 1) 135 101 [x0, x1, x2, x3, x4] (.int p3 :: .int p2 :: .int p1 :: .ref p0 :: st) σ ρ g τ Q = AW d 47 0 [.ref p0, .int p1, .int p2, .int p3] [] σ ρ g τ (fun r9 σ ρ g τ => AW (d + 1) 135 104 [x0, x1, x2, x3, x4] (r9.toList ++ st) σ ρ g τ Q) := aw_cv m135 d135_101 rfl m47 rfl rfl (by decide) en47 ok47 rfl ht hs
theorem d135_104 : decode cX11_railway 104 = .ok (.iload 4, 2) := by decide +kernel
theorem s135_104 {d : Nat} {st : List Value} {σ : am_I} {ρ : am_R} {g : am_J} {τ : am_T} {Q : am_Q} {x0 x1 x2 x3 : Value} {v : Int32} : AW d 135 104 [x0, x1, x2, x3, .int v] (st) σ ρ g τ Q = AW d 135 106 [x0, x1, x2, x3, .int v] (.int v :: st) σ ρ g τ Q := aw_lc m135 d135_104 rfl rfl rfl
theorem d135_106 : decode cX11_railway 106 = .ok (.ireturn, 1) := by decide +kernel
theorem s135_106 {d : Nat} {σ : am_I} {ρ : am_R} {g : am_J} {τ : am_T} {Q : am_Q} {x0 x1 x2 x3 x4 : Value} {v : Int32} : AW d 135 106 [x0, x1, x2, x3, x4] ([.int v]) σ ρ g τ Q = Q (some (.int v)) σ ρ g τ := aw_ri m135 d135_106 rfl
theorem d136_0 : decode cX11_railwayOf 0 = .ok (.aload_n 0, 1) := by decide +kernel
theorem s136_0 {d : Nat} {st : List Value} {σ : am_I} {ρ : am_R} {g : am_J} {τ : am_T} {Q : am_Q} {x1 x2 x3 x4 x5 x6 : Value} {v : Nat} : AW d 136 0 [.ref v, x1, x2, x3, x4, x5, x6] (st) σ ρ g τ Q = AW d 136 1 [.ref v, x1, x2, x3, x4, x5, x6] (.ref v :: st) σ ρ g τ Q := aw_lc m136 d136_0 rfl rfl rfl
theorem d136_1 : decode cX11_railwayOf 1 = .ok (.getfield 10, 3) := by decide +kernel
theorem s136_1 {d : Nat} {st : List Value} {σ : am_I} {ρ : am_R} {g : am_J} {τ : am_T} {Q : am_Q} {x0 x1 x2 x3 x4 x5 x6 : Value} {a : Nat} (ht : τ.1 a = 11) : AW d 136 1 [x0, x1, x2, x3, x4, x5, x6] (.ref a :: st) σ ρ g τ Q = AW d 136 4 [x0, x1, x2, x3, x4, x5, x6] (va_rf (ρ a 0) :: st) σ ρ g τ Q := aw_gr m136 d136_1 rfl rfl rfl ht
theorem d136_4 : decode cX11_railwayOf 4 = .ok (.getfield 323, 3) := by decide +kernel
theorem s136_4 {d : Nat} {st : List Value} {σ : am_I} {ρ : am_R} {g : am_J} {τ : am_T} {Q : am_Q} {x0 x1 x2 x3 x4 x5 x6 : Value} {a : Nat} (ht : τ.1 a = 3) : AW d 136 4 [x0, x1, x2, x3, x4, x5, x6] (.ref a :: st) σ ρ g τ Q = AW d 136 7 [x0, x1, x2, x3, x4, x5, x6] (va_rf (ρ a 12) :: st) σ ρ g τ Q := aw_gr m136 d136_4 rfl rfl rfl ht
theorem d136_7 : decode cX11_railwayOf 7 = .ok (.iload_n 1, 1) := by decide +kernel
theorem s136_7 {d : Nat} {st : List Value} {σ : am_I} {ρ : am_R} {g : am_J} {τ : am_T} {Q : am_Q} {x0 x2 x3 x4 x5 x6 : Value} {v : Int32} : AW d 136 7 [x0, .int v, x2, x3, x4, x5, x6] (st) σ ρ g τ Q = AW d 136 8 [x0, .int v, x2, x3, x4, x5, x6] (.int v :: st) σ ρ g τ Q := aw_lc m136 d136_7 rfl rfl rfl
theorem d136_8 : decode cX11_railwayOf 8 = .ok (.invokevirtual 336, 3) := by decide +kernel
theorem s136_8 {d : Nat} {st : List Value} {σ : am_I} {ρ : am_R} {g : am_J} {τ : am_T} {Q : am_Q} {x0 x1 x2 x3 x4 x5 x6 : Value} {p0 : Nat} {p1 : Int32} (ht : τ.1 p0 = 4) (hs : st.length ≤ 4) : AW (d + 1) 136 8 [x0, x1, x2, x3, x4, x5, x6] (.int p1 :: .ref p0 :: st) σ ρ g τ Q = AW d 44 0 [.ref p0, .int p1] [] σ ρ g τ (fun r9 σ ρ g τ => AW (d + 1) 136 11 [x0, x1, x2, x3, x4, x5, x6] (r9.toList ++ st) σ ρ g τ Q) := aw_cv m136 d136_8 rfl m44 rfl rfl (by decide) en44 ok44 rfl ht hs
theorem d136_11 : decode cX11_railwayOf 11 = .ok (.ifCond .ne 5, 3) := by decide +kernel
theorem s136_11 {d : Nat} {st : List Value} {σ : am_I} {ρ : am_R} {g : am_J} {τ : am_T} {Q : am_Q} {x0 x1 x2 x3 x4 x5 x6 : Value} {v : Int32} : AW d 136 11 [x0, x1, x2, x3, x4, x5, x6] (.int v :: st) σ ρ g τ Q = if ¬ v = 0 then AW d 136 16 [x0, x1, x2, x3, x4, x5, x6] (st) σ ρ g τ Q else AW d 136 14 [x0, x1, x2, x3, x4, x5, x6] (st) σ ρ g τ Q := aw_br m136 d136_11 rfl rfl rfl
theorem d136_14 : decode cX11_railwayOf 14 = .ok (.iconst (-1), 1) := by decide +kernel
theorem s136_14 {d : Nat} {st : List Value} {σ : am_I} {ρ : am_R} {g : am_J} {τ : am_T} {Q : am_Q} {x0 x1 x2 x3 x4 x5 x6 : Value} : AW d 136 14 [x0, x1, x2, x3, x4, x5, x6] (st) σ ρ g τ Q = AW d 136 15 [x0, x1, x2, x3, x4, x5, x6] (.int (-1) :: st) σ ρ g τ Q := aw_lc m136 d136_14 rfl rfl rfl
theorem d136_15 : decode cX11_railwayOf 15 = .ok (.ireturn, 1) := by decide +kernel
theorem s136_15 {d : Nat} {σ : am_I} {ρ : am_R} {g : am_J} {τ : am_T} {Q : am_Q} {x0 x1 x2 x3 x4 x5 x6 : Value} {v : Int32} : AW d 136 15 [x0, x1, x2, x3, x4, x5, x6] ([.int v]) σ ρ g τ Q = Q (some (.int v)) σ ρ g τ := aw_ri m136 d136_15 rfl
theorem d136_16 : decode cX11_railwayOf 16 = .ok (.aload_n 0, 1) := by decide +kernel
theorem s136_16 {d : Nat} {st : List Value} {σ : am_I} {ρ : am_R} {g : am_J} {τ : am_T} {Q : am_Q} {x1 x2 x3 x4 x5 x6 : Value} {v : Nat} : AW d 136 16 [.ref v, x1, x2, x3, x4, x5, x6] (st) σ ρ g τ Q = AW d 136 17 [.ref v, x1, x2, x3, x4, x5, x6] (.ref v :: st) σ ρ g τ Q := aw_lc m136 d136_16 rfl rfl rfl
theorem d136_17 : decode cX11_railwayOf 17 = .ok (.getfield 10, 3) := by decide +kernel
theorem s136_17 {d : Nat} {st : List Value} {σ : am_I} {ρ : am_R} {g : am_J} {τ : am_T} {Q : am_Q} {x0 x1 x2 x3 x4 x5 x6 : Value} {a : Nat} (ht : τ.1 a = 11) : AW d 136 17 [x0, x1, x2, x3, x4, x5, x6] (.ref a :: st) σ ρ g τ Q = AW d 136 20 [x0, x1, x2, x3, x4, x5, x6] (va_rf (ρ a 0) :: st) σ ρ g τ Q := aw_gr m136 d136_17 rfl rfl rfl ht
theorem d136_20 : decode cX11_railwayOf 20 = .ok (.aload_n 0, 1) := by decide +kernel
theorem s136_20 {d : Nat} {st : List Value} {σ : am_I} {ρ : am_R} {g : am_J} {τ : am_T} {Q : am_Q} {x1 x2 x3 x4 x5 x6 : Value} {v : Nat} : AW d 136 20 [.ref v, x1, x2, x3, x4, x5, x6] (st) σ ρ g τ Q = AW d 136 21 [.ref v, x1, x2, x3, x4, x5, x6] (.ref v :: st) σ ρ g τ Q := aw_lc m136 d136_20 rfl rfl rfl
theorem d136_21 : decode cX11_railwayOf 21 = .ok (.getfield 10, 3) := by decide +kernel
theorem s136_21 {d : Nat} {st : List Value} {σ : am_I} {ρ : am_R} {g : am_J} {τ : am_T} {Q : am_Q} {x0 x1 x2 x3 x4 x5 x6 : Value} {a : Nat} (ht : τ.1 a = 11) : AW d 136 21 [x0, x1, x2, x3, x4, x5, x6] (.ref a :: st) σ ρ g τ Q = AW d 136 24 [x0, x1, x2, x3, x4, x5, x6] (va_rf (ρ a 0) :: st) σ ρ g τ Q := aw_gr m136 d136_21 rfl rfl rfl ht
theorem d136_24 : decode cX11_railwayOf 24 = .ok (.getfield 323, 3) := by decide +kernel
theorem s136_24 {d : Nat} {st : List Value} {σ : am_I} {ρ : am_R} {g : am_J} {τ : am_T} {Q : am_Q} {x0 x1 x2 x3 x4 x5 x6 : Value} {a : Nat} (ht : τ.1 a = 3) : AW d 136 24 [x0, x1, x2, x3, x4, x5, x6] (.ref a :: st) σ ρ g τ Q = AW d 136 27 [x0, x1, x2, x3, x4, x5, x6] (va_rf (ρ a 12) :: st) σ ρ g τ Q := aw_gr m136 d136_24 rfl rfl rfl ht
theorem d136_27 : decode cX11_railwayOf 27 = .ok (.iload_n 1, 1) := by decide +kernel
theorem s136_27 {d : Nat} {st : List Value} {σ : am_I} {ρ : am_R} {g : am_J} {τ : am_T} {Q : am_Q} {x0 x2 x3 x4 x5 x6 : Value} {v : Int32} : AW d 136 27 [x0, .int v, x2, x3, x4, x5, x6] (st) σ ρ g τ Q = AW d 136 28 [x0, .int v, x2, x3, x4, x5, x6] (.int v :: st) σ ρ g τ Q := aw_lc m136 d136_27 rfl rfl rfl
theorem d136_28 : decode cX11_railwayOf 28 = .ok (.iconst 0, 1) := by decide +kernel
theorem s136_28 {d : Nat} {st : List Value} {σ : am_I} {ρ : am_R} {g : am_J} {τ : am_T} {Q : am_Q} {x0 x1 x2 x3 x4 x5 x6 : Value} : AW d 136 28 [x0, x1, x2, x3, x4, x5, x6] (st) σ ρ g τ Q = AW d 136 29 [x0, x1, x2, x3, x4, x5, x6] (.int 0 :: st) σ ρ g τ Q := aw_lc m136 d136_28 rfl rfl rfl
theorem d136_29 : decode cX11_railwayOf 29 = .ok (.invokevirtual 339, 3) := by decide +kernel
theorem s136_29 {d : Nat} {st : List Value} {σ : am_I} {ρ : am_R} {g : am_J} {τ : am_T} {Q : am_Q} {x0 x1 x2 x3 x4 x5 x6 : Value} {p0 : Nat} {p1 : Int32} {p2 : Int32} (ht : τ.1 p0 = 4) (hs : st.length ≤ 4) : AW (d + 1) 136 29 [x0, x1, x2, x3, x4, x5, x6] (.int p2 :: .int p1 :: .ref p0 :: st) σ ρ g τ Q = AW d 46 0 [.ref p0, .int p1, .int p2] [] σ ρ g τ (fun r9 σ ρ g τ => AW (d + 1) 136 32 [x0, x1, x2, x3, x4, x5, x6] (r9.toList ++ st) σ ρ g τ Q) := aw_cv m136 d136_29 rfl m46 rfl rfl (by decide) en46 ok46 rfl ht hs
theorem d136_32 : decode cX11_railwayOf 32 = .ok (.invokevirtual 342, 3) := by decide +kernel
theorem s136_32 {d : Nat} {st : List Value} {σ : am_I} {ρ : am_R} {g : am_J} {τ : am_T} {Q : am_Q} {x0 x1 x2 x3 x4 x5 x6 : Value} {p0 : Nat} {p1 : Int32} (ht : τ.1 p0 = 3) (hs : st.length ≤ 4) : AW (d + 1) 136 32 [x0, x1, x2, x3, x4, x5, x6] (.int p1 :: .ref p0 :: st) σ ρ g τ Q = AW d 36 0 [.ref p0, .int p1, am_jk, am_jk, am_jk, am_jk] [] σ ρ g τ (fun r9 σ ρ g τ => AW (d + 1) 136 35 [x0, x1, x2, x3, x4, x5, x6] (r9.toList ++ st) σ ρ g τ Q) := aw_cv m136 d136_32 rfl m36 rfl rfl (by decide) en36 ok36 rfl ht hs
theorem d136_35 : decode cX11_railwayOf 35 = .ok (.istore_n 3, 1) := by decide +kernel
theorem s136_35 {d : Nat} {st : List Value} {σ : am_I} {ρ : am_R} {g : am_J} {τ : am_T} {Q : am_Q} {x0 x1 x3 x4 x5 x6 : Value} {v : Int32} {u : Int32} : AW d 136 35 [x0, x1, .int u, x3, x4, x5, x6] (.int v :: st) σ ρ g τ Q = AW d 136 36 [x0, x1, .int u, .int v, x4, x5, x6] (st) σ ρ g τ Q := aw_lc m136 d136_35 rfl rfl rfl
theorem d136_36 : decode cX11_railwayOf 36 = .ok (.aload_n 0, 1) := by decide +kernel
theorem s136_36 {d : Nat} {st : List Value} {σ : am_I} {ρ : am_R} {g : am_J} {τ : am_T} {Q : am_Q} {x1 x2 x3 x4 x5 x6 : Value} {v : Nat} : AW d 136 36 [.ref v, x1, x2, x3, x4, x5, x6] (st) σ ρ g τ Q = AW d 136 37 [.ref v, x1, x2, x3, x4, x5, x6] (.ref v :: st) σ ρ g τ Q := aw_lc m136 d136_36 rfl rfl rfl
theorem d136_37 : decode cX11_railwayOf 37 = .ok (.getfield 10, 3) := by decide +kernel
theorem s136_37 {d : Nat} {st : List Value} {σ : am_I} {ρ : am_R} {g : am_J} {τ : am_T} {Q : am_Q} {x0 x1 x2 x3 x4 x5 x6 : Value} {a : Nat} (ht : τ.1 a = 11) : AW d 136 37 [x0, x1, x2, x3, x4, x5, x6] (.ref a :: st) σ ρ g τ Q = AW d 136 40 [x0, x1, x2, x3, x4, x5, x6] (va_rf (ρ a 0) :: st) σ ρ g τ Q := aw_gr m136 d136_37 rfl rfl rfl ht
theorem d136_40 : decode cX11_railwayOf 40 = .ok (.getfield 323, 3) := by decide +kernel
theorem s136_40 {d : Nat} {st : List Value} {σ : am_I} {ρ : am_R} {g : am_J} {τ : am_T} {Q : am_Q} {x0 x1 x2 x3 x4 x5 x6 : Value} {a : Nat} (ht : τ.1 a = 3) : AW d 136 40 [x0, x1, x2, x3, x4, x5, x6] (.ref a :: st) σ ρ g τ Q = AW d 136 43 [x0, x1, x2, x3, x4, x5, x6] (va_rf (ρ a 12) :: st) σ ρ g τ Q := aw_gr m136 d136_40 rfl rfl rfl ht
theorem d136_43 : decode cX11_railwayOf 43 = .ok (.iload_n 1, 1) := by decide +kernel
theorem s136_43 {d : Nat} {st : List Value} {σ : am_I} {ρ : am_R} {g : am_J} {τ : am_T} {Q : am_Q} {x0 x2 x3 x4 x5 x6 : Value} {v : Int32} : AW d 136 43 [x0, .int v, x2, x3, x4, x5, x6] (st) σ ρ g τ Q = AW d 136 44 [x0, .int v, x2, x3, x4, x5, x6] (.int v :: st) σ ρ g τ Q := aw_lc m136 d136_43 rfl rfl rfl
theorem d136_44 : decode cX11_railwayOf 44 = .ok (.iconst 1, 1) := by decide +kernel
theorem s136_44 {d : Nat} {st : List Value} {σ : am_I} {ρ : am_R} {g : am_J} {τ : am_T} {Q : am_Q} {x0 x1 x2 x3 x4 x5 x6 : Value} : AW d 136 44 [x0, x1, x2, x3, x4, x5, x6] (st) σ ρ g τ Q = AW d 136 45 [x0, x1, x2, x3, x4, x5, x6] (.int 1 :: st) σ ρ g τ Q := aw_lc m136 d136_44 rfl rfl rfl
theorem d136_45 : decode cX11_railwayOf 45 = .ok (.invokevirtual 339, 3) := by decide +kernel
theorem s136_45 {d : Nat} {st : List Value} {σ : am_I} {ρ : am_R} {g : am_J} {τ : am_T} {Q : am_Q} {x0 x1 x2 x3 x4 x5 x6 : Value} {p0 : Nat} {p1 : Int32} {p2 : Int32} (ht : τ.1 p0 = 4) (hs : st.length ≤ 4) : AW (d + 1) 136 45 [x0, x1, x2, x3, x4, x5, x6] (.int p2 :: .int p1 :: .ref p0 :: st) σ ρ g τ Q = AW d 46 0 [.ref p0, .int p1, .int p2] [] σ ρ g τ (fun r9 σ ρ g τ => AW (d + 1) 136 48 [x0, x1, x2, x3, x4, x5, x6] (r9.toList ++ st) σ ρ g τ Q) := aw_cv m136 d136_45 rfl m46 rfl rfl (by decide) en46 ok46 rfl ht hs
theorem d136_48 : decode cX11_railwayOf 48 = .ok (.istore 4, 2) := by decide +kernel
theorem s136_48 {d : Nat} {st : List Value} {σ : am_I} {ρ : am_R} {g : am_J} {τ : am_T} {Q : am_Q} {x0 x1 x2 x4 x5 x6 : Value} {v : Int32} {u : Int32} : AW d 136 48 [x0, x1, x2, .int u, x4, x5, x6] (.int v :: st) σ ρ g τ Q = AW d 136 50 [x0, x1, x2, .int u, .int v, x5, x6] (st) σ ρ g τ Q := aw_lc m136 d136_48 rfl rfl rfl
theorem d136_50 : decode cX11_railwayOf 50 = .ok (.aload_n 0, 1) := by decide +kernel
theorem s136_50 {d : Nat} {st : List Value} {σ : am_I} {ρ : am_R} {g : am_J} {τ : am_T} {Q : am_Q} {x1 x2 x3 x4 x5 x6 : Value} {v : Nat} : AW d 136 50 [.ref v, x1, x2, x3, x4, x5, x6] (st) σ ρ g τ Q = AW d 136 51 [.ref v, x1, x2, x3, x4, x5, x6] (.ref v :: st) σ ρ g τ Q := aw_lc m136 d136_50 rfl rfl rfl
theorem d136_51 : decode cX11_railwayOf 51 = .ok (.getfield 10, 3) := by decide +kernel
theorem s136_51 {d : Nat} {st : List Value} {σ : am_I} {ρ : am_R} {g : am_J} {τ : am_T} {Q : am_Q} {x0 x1 x2 x3 x4 x5 x6 : Value} {a : Nat} (ht : τ.1 a = 11) : AW d 136 51 [x0, x1, x2, x3, x4, x5, x6] (.ref a :: st) σ ρ g τ Q = AW d 136 54 [x0, x1, x2, x3, x4, x5, x6] (va_rf (ρ a 0) :: st) σ ρ g τ Q := aw_gr m136 d136_51 rfl rfl rfl ht
theorem d136_54 : decode cX11_railwayOf 54 = .ok (.getfield 323, 3) := by decide +kernel
theorem s136_54 {d : Nat} {st : List Value} {σ : am_I} {ρ : am_R} {g : am_J} {τ : am_T} {Q : am_Q} {x0 x1 x2 x3 x4 x5 x6 : Value} {a : Nat} (ht : τ.1 a = 3) : AW d 136 54 [x0, x1, x2, x3, x4, x5, x6] (.ref a :: st) σ ρ g τ Q = AW d 136 57 [x0, x1, x2, x3, x4, x5, x6] (va_rf (ρ a 12) :: st) σ ρ g τ Q := aw_gr m136 d136_54 rfl rfl rfl ht
theorem d136_57 : decode cX11_railwayOf 57 = .ok (.iload_n 1, 1) := by decide +kernel
theorem s136_57 {d : Nat} {st : List Value} {σ : am_I} {ρ : am_R} {g : am_J} {τ : am_T} {Q : am_Q} {x0 x2 x3 x4 x5 x6 : Value} {v : Int32} : AW d 136 57 [x0, .int v, x2, x3, x4, x5, x6] (st) σ ρ g τ Q = AW d 136 58 [x0, .int v, x2, x3, x4, x5, x6] (.int v :: st) σ ρ g τ Q := aw_lc m136 d136_57 rfl rfl rfl
theorem d136_58 : decode cX11_railwayOf 58 = .ok (.iconst 2, 1) := by decide +kernel
theorem s136_58 {d : Nat} {st : List Value} {σ : am_I} {ρ : am_R} {g : am_J} {τ : am_T} {Q : am_Q} {x0 x1 x2 x3 x4 x5 x6 : Value} : AW d 136 58 [x0, x1, x2, x3, x4, x5, x6] (st) σ ρ g τ Q = AW d 136 59 [x0, x1, x2, x3, x4, x5, x6] (.int 2 :: st) σ ρ g τ Q := aw_lc m136 d136_58 rfl rfl rfl
theorem d136_59 : decode cX11_railwayOf 59 = .ok (.invokevirtual 339, 3) := by decide +kernel
theorem s136_59 {d : Nat} {st : List Value} {σ : am_I} {ρ : am_R} {g : am_J} {τ : am_T} {Q : am_Q} {x0 x1 x2 x3 x4 x5 x6 : Value} {p0 : Nat} {p1 : Int32} {p2 : Int32} (ht : τ.1 p0 = 4) (hs : st.length ≤ 4) : AW (d + 1) 136 59 [x0, x1, x2, x3, x4, x5, x6] (.int p2 :: .int p1 :: .ref p0 :: st) σ ρ g τ Q = AW d 46 0 [.ref p0, .int p1, .int p2] [] σ ρ g τ (fun r9 σ ρ g τ => AW (d + 1) 136 62 [x0, x1, x2, x3, x4, x5, x6] (r9.toList ++ st) σ ρ g τ Q) := aw_cv m136 d136_59 rfl m46 rfl rfl (by decide) en46 ok46 rfl ht hs
theorem d136_62 : decode cX11_railwayOf 62 = .ok (.istore 5, 2) := by decide +kernel
theorem s136_62 {d : Nat} {st : List Value} {σ : am_I} {ρ : am_R} {g : am_J} {τ : am_T} {Q : am_Q} {x0 x1 x2 x3 x5 x6 : Value} {v : Int32} {u : Int32} : AW d 136 62 [x0, x1, x2, x3, .int u, x5, x6] (.int v :: st) σ ρ g τ Q = AW d 136 64 [x0, x1, x2, x3, .int u, .int v, x6] (st) σ ρ g τ Q := aw_lc m136 d136_62 rfl rfl rfl
theorem d136_64 : decode cX11_railwayOf 64 = .ok (.iload_n 3, 1) := by decide +kernel
theorem s136_64 {d : Nat} {st : List Value} {σ : am_I} {ρ : am_R} {g : am_J} {τ : am_T} {Q : am_Q} {x0 x1 x2 x4 x5 x6 : Value} {v : Int32} : AW d 136 64 [x0, x1, x2, .int v, x4, x5, x6] (st) σ ρ g τ Q = AW d 136 65 [x0, x1, x2, .int v, x4, x5, x6] (.int v :: st) σ ρ g τ Q := aw_lc m136 d136_64 rfl rfl rfl
theorem d136_65 : decode cX11_railwayOf 65 = .ok (.iload 4, 2) := by decide +kernel
theorem s136_65 {d : Nat} {st : List Value} {σ : am_I} {ρ : am_R} {g : am_J} {τ : am_T} {Q : am_Q} {x0 x1 x2 x3 x5 x6 : Value} {v : Int32} : AW d 136 65 [x0, x1, x2, x3, .int v, x5, x6] (st) σ ρ g τ Q = AW d 136 67 [x0, x1, x2, x3, .int v, x5, x6] (.int v :: st) σ ρ g τ Q := aw_lc m136 d136_65 rfl rfl rfl
theorem d136_67 : decode cX11_railwayOf 67 = .ok (.bipush 10, 2) := by decide +kernel
theorem s136_67 {d : Nat} {st : List Value} {σ : am_I} {ρ : am_R} {g : am_J} {τ : am_T} {Q : am_Q} {x0 x1 x2 x3 x4 x5 x6 : Value} : AW d 136 67 [x0, x1, x2, x3, x4, x5, x6] (st) σ ρ g τ Q = AW d 136 69 [x0, x1, x2, x3, x4, x5, x6] (.int 10 :: st) σ ρ g τ Q := aw_lc m136 d136_67 rfl rfl rfl
theorem d136_69 : decode cX11_railwayOf 69 = .ok (.idiv, 1) := by decide +kernel
theorem s136_69 {d : Nat} {st : List Value} {σ : am_I} {ρ : am_R} {g : am_J} {τ : am_T} {Q : am_Q} {x0 x1 x2 x3 x4 x5 x6 : Value} {v w : Int32} (h0 : ¬ w = 0) : AW d 136 69 [x0, x1, x2, x3, x4, x5, x6] (.int w :: .int v :: st) σ ρ g τ Q = AW d 136 70 [x0, x1, x2, x3, x4, x5, x6] (.int (v / w) :: st) σ ρ g τ Q := aw_div m136 d136_69 h0 rfl
theorem d136_70 : decode cX11_railwayOf 70 = .ok (.imul, 1) := by decide +kernel
theorem s136_70 {d : Nat} {st : List Value} {σ : am_I} {ρ : am_R} {g : am_J} {τ : am_T} {Q : am_Q} {x0 x1 x2 x3 x4 x5 x6 : Value} {v w : Int32} : AW d 136 70 [x0, x1, x2, x3, x4, x5, x6] (.int w :: .int v :: st) σ ρ g τ Q = AW d 136 71 [x0, x1, x2, x3, x4, x5, x6] (.int (v * w) :: st) σ ρ g τ Q := aw_lc m136 d136_70 rfl rfl rfl
theorem d136_71 : decode cX11_railwayOf 71 = .ok (.istore 6, 2) := by decide +kernel
theorem s136_71 {d : Nat} {st : List Value} {σ : am_I} {ρ : am_R} {g : am_J} {τ : am_T} {Q : am_Q} {x0 x1 x2 x3 x4 x6 : Value} {v : Int32} {u : Int32} : AW d 136 71 [x0, x1, x2, x3, x4, .int u, x6] (.int v :: st) σ ρ g τ Q = AW d 136 73 [x0, x1, x2, x3, x4, .int u, .int v] (st) σ ρ g τ Q := aw_lc m136 d136_71 rfl rfl rfl
theorem d136_73 : decode cX11_railwayOf 73 = .ok (.iload_n 2, 1) := by decide +kernel
theorem s136_73 {d : Nat} {st : List Value} {σ : am_I} {ρ : am_R} {g : am_J} {τ : am_T} {Q : am_Q} {x0 x1 x3 x4 x5 x6 : Value} {v : Int32} : AW d 136 73 [x0, x1, .int v, x3, x4, x5, x6] (st) σ ρ g τ Q = AW d 136 74 [x0, x1, .int v, x3, x4, x5, x6] (.int v :: st) σ ρ g τ Q := aw_lc m136 d136_73 rfl rfl rfl
theorem d136_74 : decode cX11_railwayOf 74 = .ok (.tableswitch 49 0 2 #[26, 29, 42], 26) := by decide +kernel
theorem s136_74_0 {d : Nat} {st : List Value} {σ : am_I} {ρ : am_R} {g : am_J} {τ : am_T} {Q : am_Q} {x0 x1 x2 x3 x4 x5 x6 : Value} : AW d 136 74 [x0, x1, x2, x3, x4, x5, x6] (.int 0 :: st) σ ρ g τ Q = AW d 136 100 [x0, x1, x2, x3, x4, x5, x6] (st) σ ρ g τ Q := aw_lc m136 d136_74 rfl rfl rfl
theorem s136_74_1 {d : Nat} {st : List Value} {σ : am_I} {ρ : am_R} {g : am_J} {τ : am_T} {Q : am_Q} {x0 x1 x2 x3 x4 x5 x6 : Value} : AW d 136 74 [x0, x1, x2, x3, x4, x5, x6] (.int 1 :: st) σ ρ g τ Q = AW d 136 103 [x0, x1, x2, x3, x4, x5, x6] (st) σ ρ g τ Q := aw_lc m136 d136_74 rfl rfl rfl
theorem s136_74_2 {d : Nat} {st : List Value} {σ : am_I} {ρ : am_R} {g : am_J} {τ : am_T} {Q : am_Q} {x0 x1 x2 x3 x4 x5 x6 : Value} : AW d 136 74 [x0, x1, x2, x3, x4, x5, x6] (.int 2 :: st) σ ρ g τ Q = AW d 136 116 [x0, x1, x2, x3, x4, x5, x6] (st) σ ρ g τ Q := aw_lc m136 d136_74 rfl rfl rfl
theorem s136_74_d {d : Nat} {st : List Value} {σ : am_I} {ρ : am_R} {g : am_J} {τ : am_T} {Q : am_Q} {x0 x1 x2 x3 x4 x5 x6 : Value} {v : Int32} (h : v.toInt < 0 ∨ 2 < v.toInt) : AW d 136 74 [x0, x1, x2, x3, x4, x5, x6] (.int v :: st) σ ρ g τ Q = AW d 136 123 [x0, x1, x2, x3, x4, x5, x6] (st) σ ρ g τ Q := aw_lc m136 d136_74 rfl rfl (by simp only [am_lc]; rw [if_pos h]; rfl)
theorem d136_100 : decode cX11_railwayOf 100 = .ok (.iload 6, 2) := by decide +kernel
theorem s136_100 {d : Nat} {st : List Value} {σ : am_I} {ρ : am_R} {g : am_J} {τ : am_T} {Q : am_Q} {x0 x1 x2 x3 x4 x5 : Value} {v : Int32} : AW d 136 100 [x0, x1, x2, x3, x4, x5, .int v] (st) σ ρ g τ Q = AW d 136 102 [x0, x1, x2, x3, x4, x5, .int v] (.int v :: st) σ ρ g τ Q := aw_lc m136 d136_100 rfl rfl rfl
theorem d136_102 : decode cX11_railwayOf 102 = .ok (.ireturn, 1) := by decide +kernel
theorem s136_102 {d : Nat} {σ : am_I} {ρ : am_R} {g : am_J} {τ : am_T} {Q : am_Q} {x0 x1 x2 x3 x4 x5 x6 : Value} {v : Int32} : AW d 136 102 [x0, x1, x2, x3, x4, x5, x6] ([.int v]) σ ρ g τ Q = Q (some (.int v)) σ ρ g τ := aw_ri m136 d136_102 rfl
theorem d136_103 : decode cX11_railwayOf 103 = .ok (.iconst 0, 1) := by decide +kernel
theorem s136_103 {d : Nat} {st : List Value} {σ : am_I} {ρ : am_R} {g : am_J} {τ : am_T} {Q : am_Q} {x0 x1 x2 x3 x4 x5 x6 : Value} : AW d 136 103 [x0, x1, x2, x3, x4, x5, x6] (st) σ ρ g τ Q = AW d 136 104 [x0, x1, x2, x3, x4, x5, x6] (.int 0 :: st) σ ρ g τ Q := aw_lc m136 d136_103 rfl rfl rfl
theorem d136_104 : decode cX11_railwayOf 104 = .ok (.iload 5, 2) := by decide +kernel
theorem s136_104 {d : Nat} {st : List Value} {σ : am_I} {ρ : am_R} {g : am_J} {τ : am_T} {Q : am_Q} {x0 x1 x2 x3 x4 x6 : Value} {v : Int32} : AW d 136 104 [x0, x1, x2, x3, x4, .int v, x6] (st) σ ρ g τ Q = AW d 136 106 [x0, x1, x2, x3, x4, .int v, x6] (.int v :: st) σ ρ g τ Q := aw_lc m136 d136_104 rfl rfl rfl
theorem d136_106 : decode cX11_railwayOf 106 = .ok (.iload 4, 2) := by decide +kernel
theorem s136_106 {d : Nat} {st : List Value} {σ : am_I} {ρ : am_R} {g : am_J} {τ : am_T} {Q : am_Q} {x0 x1 x2 x3 x5 x6 : Value} {v : Int32} : AW d 136 106 [x0, x1, x2, x3, .int v, x5, x6] (st) σ ρ g τ Q = AW d 136 108 [x0, x1, x2, x3, .int v, x5, x6] (.int v :: st) σ ρ g τ Q := aw_lc m136 d136_106 rfl rfl rfl
theorem d136_108 : decode cX11_railwayOf 108 = .ok (.imul, 1) := by decide +kernel
theorem s136_108 {d : Nat} {st : List Value} {σ : am_I} {ρ : am_R} {g : am_J} {τ : am_T} {Q : am_Q} {x0 x1 x2 x3 x4 x5 x6 : Value} {v w : Int32} : AW d 136 108 [x0, x1, x2, x3, x4, x5, x6] (.int w :: .int v :: st) σ ρ g τ Q = AW d 136 109 [x0, x1, x2, x3, x4, x5, x6] (.int (v * w) :: st) σ ρ g τ Q := aw_lc m136 d136_108 rfl rfl rfl
theorem d136_109 : decode cX11_railwayOf 109 = .ok (.iload 6, 2) := by decide +kernel
theorem s136_109 {d : Nat} {st : List Value} {σ : am_I} {ρ : am_R} {g : am_J} {τ : am_T} {Q : am_Q} {x0 x1 x2 x3 x4 x5 : Value} {v : Int32} : AW d 136 109 [x0, x1, x2, x3, x4, x5, .int v] (st) σ ρ g τ Q = AW d 136 111 [x0, x1, x2, x3, x4, x5, .int v] (.int v :: st) σ ρ g τ Q := aw_lc m136 d136_109 rfl rfl rfl
theorem d136_111 : decode cX11_railwayOf 111 = .ok (.isub, 1) := by decide +kernel
theorem s136_111 {d : Nat} {st : List Value} {σ : am_I} {ρ : am_R} {g : am_J} {τ : am_T} {Q : am_Q} {x0 x1 x2 x3 x4 x5 x6 : Value} {v w : Int32} : AW d 136 111 [x0, x1, x2, x3, x4, x5, x6] (.int w :: .int v :: st) σ ρ g τ Q = AW d 136 112 [x0, x1, x2, x3, x4, x5, x6] (.int (v - w) :: st) σ ρ g τ Q := aw_lc m136 d136_111 rfl rfl rfl
theorem d136_112 : decode cX11_railwayOf 112 = .ok (.invokestatic 346, 3) := by decide +kernel
theorem s136_112 {d : Nat} {st : List Value} {σ : am_I} {ρ : am_R} {g : am_J} {τ : am_T} {Q : am_Q} {x0 x1 x2 x3 x4 x5 x6 : Value} {v w : Int32} (hs : st.length ≤ 4) : AW d 136 112 [x0, x1, x2, x3, x4, x5, x6] (.int w :: .int v :: st) σ ρ g τ Q = AW d 136 115 [x0, x1, x2, x3, x4, x5, x6] (.int (if v < w then w else v) :: st) σ ρ g τ Q := aw_max m136 d136_112 rfl rfl hs
theorem d136_115 : decode cX11_railwayOf 115 = .ok (.ireturn, 1) := by decide +kernel
theorem s136_115 {d : Nat} {σ : am_I} {ρ : am_R} {g : am_J} {τ : am_T} {Q : am_Q} {x0 x1 x2 x3 x4 x5 x6 : Value} {v : Int32} : AW d 136 115 [x0, x1, x2, x3, x4, x5, x6] ([.int v]) σ ρ g τ Q = Q (some (.int v)) σ ρ g τ := aw_ri m136 d136_115 rfl
theorem d136_116 : decode cX11_railwayOf 116 = .ok (.iload_n 3, 1) := by decide +kernel
theorem s136_116 {d : Nat} {st : List Value} {σ : am_I} {ρ : am_R} {g : am_J} {τ : am_T} {Q : am_Q} {x0 x1 x2 x4 x5 x6 : Value} {v : Int32} : AW d 136 116 [x0, x1, x2, .int v, x4, x5, x6] (st) σ ρ g τ Q = AW d 136 117 [x0, x1, x2, .int v, x4, x5, x6] (.int v :: st) σ ρ g τ Q := aw_lc m136 d136_116 rfl rfl rfl
theorem d136_117 : decode cX11_railwayOf 117 = .ok (.iload 5, 2) := by decide +kernel
theorem s136_117 {d : Nat} {st : List Value} {σ : am_I} {ρ : am_R} {g : am_J} {τ : am_T} {Q : am_Q} {x0 x1 x2 x3 x4 x6 : Value} {v : Int32} : AW d 136 117 [x0, x1, x2, x3, x4, .int v, x6] (st) σ ρ g τ Q = AW d 136 119 [x0, x1, x2, x3, x4, .int v, x6] (.int v :: st) σ ρ g τ Q := aw_lc m136 d136_117 rfl rfl rfl
theorem d136_119 : decode cX11_railwayOf 119 = .ok (.invokestatic 349, 3) := by decide +kernel
theorem s136_119 {d : Nat} {st : List Value} {σ : am_I} {ρ : am_R} {g : am_J} {τ : am_T} {Q : am_Q} {x0 x1 x2 x3 x4 x5 x6 : Value} {p0 : Int32} {p1 : Int32} (hs : st.length ≤ 4) : AW (d + 1) 136 119 [x0, x1, x2, x3, x4, x5, x6] (.int p1 :: .int p0 :: st) σ ρ g τ Q = AW d 137 0 [.int p0, .int p1, am_jk, am_jk] [] σ ρ g τ (fun r9 σ ρ g τ => AW (d + 1) 136 122 [x0, x1, x2, x3, x4, x5, x6] (r9.toList ++ st) σ ρ g τ Q) := aw_cs m136 d136_119 rfl (by simp only [List.length_cons]; omega) rfl rfl en137 ok137 rfl hs
theorem d136_122 : decode cX11_railwayOf 122 = .ok (.ireturn, 1) := by decide +kernel
theorem s136_122 {d : Nat} {σ : am_I} {ρ : am_R} {g : am_J} {τ : am_T} {Q : am_Q} {x0 x1 x2 x3 x4 x5 x6 : Value} {v : Int32} : AW d 136 122 [x0, x1, x2, x3, x4, x5, x6] ([.int v]) σ ρ g τ Q = Q (some (.int v)) σ ρ g τ := aw_ri m136 d136_122 rfl
theorem d136_123 : decode cX11_railwayOf 123 = .ok (.iconst (-1), 1) := by decide +kernel
theorem s136_123 {d : Nat} {st : List Value} {σ : am_I} {ρ : am_R} {g : am_J} {τ : am_T} {Q : am_Q} {x0 x1 x2 x3 x4 x5 x6 : Value} : AW d 136 123 [x0, x1, x2, x3, x4, x5, x6] (st) σ ρ g τ Q = AW d 136 124 [x0, x1, x2, x3, x4, x5, x6] (.int (-1) :: st) σ ρ g τ Q := aw_lc m136 d136_123 rfl rfl rfl
theorem d136_124 : decode cX11_railwayOf 124 = .ok (.ireturn, 1) := by decide +kernel
theorem s136_124 {d : Nat} {σ : am_I} {ρ : am_R} {g : am_J} {τ : am_T} {Q : am_Q} {x0 x1 x2 x3 x4 x5 x6 : Value} {v : Int32} : AW d 136 124 [x0, x1, x2, x3, x4, x5, x6] ([.int v]) σ ρ g τ Q = Q (some (.int v)) σ ρ g τ := aw_ri m136 d136_124 rfl
theorem d137_0 : decode cX11_bearsFrom 0 = .ok (.bipush (-3), 2) := by decide +kernel
theorem s137_0 {d : Nat} {st : List Value} {σ : am_I} {ρ : am_R} {g : am_J} {τ : am_T} {Q : am_Q} {x0 x1 x2 x3 : Value} : AW d 137 0 [x0, x1, x2, x3] (st) σ ρ g τ Q = AW d 137 2 [x0, x1, x2, x3] (.int (-3) :: st) σ ρ g τ Q := aw_lc m137 d137_0 rfl rfl rfl
theorem d137_2 : decode cX11_bearsFrom 2 = .ok (.istore_n 2, 1) := by decide +kernel
theorem s137_2 {d : Nat} {st : List Value} {σ : am_I} {ρ : am_R} {g : am_J} {τ : am_T} {Q : am_Q} {x0 x2 x3 : Value} {v : Int32} {u : Int32} : AW d 137 2 [x0, .int u, x2, x3] (.int v :: st) σ ρ g τ Q = AW d 137 3 [x0, .int u, .int v, x3] (st) σ ρ g τ Q := aw_lc m137 d137_2 rfl rfl rfl
theorem d137_3 : decode cX11_bearsFrom 3 = .ok (.sipush 400, 3) := by decide +kernel
theorem s137_3 {d : Nat} {st : List Value} {σ : am_I} {ρ : am_R} {g : am_J} {τ : am_T} {Q : am_Q} {x0 x1 x2 x3 : Value} : AW d 137 3 [x0, x1, x2, x3] (st) σ ρ g τ Q = AW d 137 6 [x0, x1, x2, x3] (.int 400 :: st) σ ρ g τ Q := aw_lc m137 d137_3 rfl rfl rfl
theorem d137_6 : decode cX11_bearsFrom 6 = .ok (.istore_n 3, 1) := by decide +kernel
theorem s137_6 {d : Nat} {st : List Value} {σ : am_I} {ρ : am_R} {g : am_J} {τ : am_T} {Q : am_Q} {x0 x1 x3 : Value} {v : Int32} {u : Int32} : AW d 137 6 [x0, x1, .int u, x3] (.int v :: st) σ ρ g τ Q = AW d 137 7 [x0, x1, .int u, .int v] (st) σ ρ g τ Q := aw_lc m137 d137_6 rfl rfl rfl
theorem d137_7 : decode cX11_bearsFrom 7 = .ok (.iload_n 3, 1) := by decide +kernel
theorem s137_7 {d : Nat} {st : List Value} {σ : am_I} {ρ : am_R} {g : am_J} {τ : am_T} {Q : am_Q} {x0 x1 x2 : Value} {v : Int32} : AW d 137 7 [x0, x1, x2, .int v] (st) σ ρ g τ Q = AW d 137 8 [x0, x1, x2, .int v] (.int v :: st) σ ρ g τ Q := aw_lc m137 d137_7 rfl rfl rfl
theorem d137_8 : decode cX11_bearsFrom 8 = .ok (.ifCond .lt 25, 3) := by decide +kernel
theorem s137_8 {d : Nat} {st : List Value} {σ : am_I} {ρ : am_R} {g : am_J} {τ : am_T} {Q : am_Q} {x0 x1 x2 x3 : Value} {v : Int32} : AW d 137 8 [x0, x1, x2, x3] (.int v :: st) σ ρ g τ Q = if v < 0 then AW d 137 33 [x0, x1, x2, x3] (st) σ ρ g τ Q else AW d 137 11 [x0, x1, x2, x3] (st) σ ρ g τ Q := aw_br m137 d137_8 rfl rfl rfl
theorem d137_11 : decode cX11_bearsFrom 11 = .ok (.iload_n 0, 1) := by decide +kernel
theorem s137_11 {d : Nat} {st : List Value} {σ : am_I} {ρ : am_R} {g : am_J} {τ : am_T} {Q : am_Q} {x1 x2 x3 : Value} {v : Int32} : AW d 137 11 [.int v, x1, x2, x3] (st) σ ρ g τ Q = AW d 137 12 [.int v, x1, x2, x3] (.int v :: st) σ ρ g τ Q := aw_lc m137 d137_11 rfl rfl rfl
theorem d137_12 : decode cX11_bearsFrom 12 = .ok (.iload_n 3, 1) := by decide +kernel
theorem s137_12 {d : Nat} {st : List Value} {σ : am_I} {ρ : am_R} {g : am_J} {τ : am_T} {Q : am_Q} {x0 x1 x2 : Value} {v : Int32} : AW d 137 12 [x0, x1, x2, .int v] (st) σ ρ g τ Q = AW d 137 13 [x0, x1, x2, .int v] (.int v :: st) σ ρ g τ Q := aw_lc m137 d137_12 rfl rfl rfl
theorem d137_13 : decode cX11_bearsFrom 13 = .ok (.bipush 10, 2) := by decide +kernel
theorem s137_13 {d : Nat} {st : List Value} {σ : am_I} {ρ : am_R} {g : am_J} {τ : am_T} {Q : am_Q} {x0 x1 x2 x3 : Value} : AW d 137 13 [x0, x1, x2, x3] (st) σ ρ g τ Q = AW d 137 15 [x0, x1, x2, x3] (.int 10 :: st) σ ρ g τ Q := aw_lc m137 d137_13 rfl rfl rfl
theorem d137_15 : decode cX11_bearsFrom 15 = .ok (.idiv, 1) := by decide +kernel
theorem s137_15 {d : Nat} {st : List Value} {σ : am_I} {ρ : am_R} {g : am_J} {τ : am_T} {Q : am_Q} {x0 x1 x2 x3 : Value} {v w : Int32} (h0 : ¬ w = 0) : AW d 137 15 [x0, x1, x2, x3] (.int w :: .int v :: st) σ ρ g τ Q = AW d 137 16 [x0, x1, x2, x3] (.int (v / w) :: st) σ ρ g τ Q := aw_div m137 d137_15 h0 rfl
theorem d137_16 : decode cX11_bearsFrom 16 = .ok (.imul, 1) := by decide +kernel
theorem s137_16 {d : Nat} {st : List Value} {σ : am_I} {ρ : am_R} {g : am_J} {τ : am_T} {Q : am_Q} {x0 x1 x2 x3 : Value} {v w : Int32} : AW d 137 16 [x0, x1, x2, x3] (.int w :: .int v :: st) σ ρ g τ Q = AW d 137 17 [x0, x1, x2, x3] (.int (v * w) :: st) σ ρ g τ Q := aw_lc m137 d137_16 rfl rfl rfl
theorem d137_17 : decode cX11_bearsFrom 17 = .ok (.iload_n 1, 1) := by decide +kernel
theorem s137_17 {d : Nat} {st : List Value} {σ : am_I} {ρ : am_R} {g : am_J} {τ : am_T} {Q : am_Q} {x0 x2 x3 : Value} {v : Int32} : AW d 137 17 [x0, .int v, x2, x3] (st) σ ρ g τ Q = AW d 137 18 [x0, .int v, x2, x3] (.int v :: st) σ ρ g τ Q := aw_lc m137 d137_17 rfl rfl rfl
theorem d137_18 : decode cX11_bearsFrom 18 = .ok (.iload_n 3, 1) := by decide +kernel
theorem s137_18 {d : Nat} {st : List Value} {σ : am_I} {ρ : am_R} {g : am_J} {τ : am_T} {Q : am_Q} {x0 x1 x2 : Value} {v : Int32} : AW d 137 18 [x0, x1, x2, .int v] (st) σ ρ g τ Q = AW d 137 19 [x0, x1, x2, .int v] (.int v :: st) σ ρ g τ Q := aw_lc m137 d137_18 rfl rfl rfl
theorem d137_19 : decode cX11_bearsFrom 19 = .ok (.imul, 1) := by decide +kernel
theorem s137_19 {d : Nat} {st : List Value} {σ : am_I} {ρ : am_R} {g : am_J} {τ : am_T} {Q : am_Q} {x0 x1 x2 x3 : Value} {v w : Int32} : AW d 137 19 [x0, x1, x2, x3] (.int w :: .int v :: st) σ ρ g τ Q = AW d 137 20 [x0, x1, x2, x3] (.int (v * w) :: st) σ ρ g τ Q := aw_lc m137 d137_19 rfl rfl rfl
theorem d137_20 : decode cX11_bearsFrom 20 = .ok (.if_icmp .ge 5, 3) := by decide +kernel
theorem s137_20 {d : Nat} {st : List Value} {σ : am_I} {ρ : am_R} {g : am_J} {τ : am_T} {Q : am_Q} {x0 x1 x2 x3 : Value} {v w : Int32} : AW d 137 20 [x0, x1, x2, x3] (.int w :: .int v :: st) σ ρ g τ Q = if w ≤ v then AW d 137 25 [x0, x1, x2, x3] (st) σ ρ g τ Q else AW d 137 23 [x0, x1, x2, x3] (st) σ ρ g τ Q := aw_br m137 d137_20 rfl rfl rfl
theorem d137_23 : decode cX11_bearsFrom 23 = .ok (.iload_n 2, 1) := by decide +kernel
theorem s137_23 {d : Nat} {st : List Value} {σ : am_I} {ρ : am_R} {g : am_J} {τ : am_T} {Q : am_Q} {x0 x1 x3 : Value} {v : Int32} : AW d 137 23 [x0, x1, .int v, x3] (st) σ ρ g τ Q = AW d 137 24 [x0, x1, .int v, x3] (.int v :: st) σ ρ g τ Q := aw_lc m137 d137_23 rfl rfl rfl
theorem d137_24 : decode cX11_bearsFrom 24 = .ok (.ireturn, 1) := by decide +kernel
theorem s137_24 {d : Nat} {σ : am_I} {ρ : am_R} {g : am_J} {τ : am_T} {Q : am_Q} {x0 x1 x2 x3 : Value} {v : Int32} : AW d 137 24 [x0, x1, x2, x3] ([.int v]) σ ρ g τ Q = Q (some (.int v)) σ ρ g τ := aw_ri m137 d137_24 rfl
theorem d137_25 : decode cX11_bearsFrom 25 = .ok (.iload_n 3, 1) := by decide +kernel
theorem s137_25 {d : Nat} {st : List Value} {σ : am_I} {ρ : am_R} {g : am_J} {τ : am_T} {Q : am_Q} {x0 x1 x2 : Value} {v : Int32} : AW d 137 25 [x0, x1, x2, .int v] (st) σ ρ g τ Q = AW d 137 26 [x0, x1, x2, .int v] (.int v :: st) σ ρ g τ Q := aw_lc m137 d137_25 rfl rfl rfl
theorem d137_26 : decode cX11_bearsFrom 26 = .ok (.istore_n 2, 1) := by decide +kernel
theorem s137_26 {d : Nat} {st : List Value} {σ : am_I} {ρ : am_R} {g : am_J} {τ : am_T} {Q : am_Q} {x0 x2 x3 : Value} {v : Int32} {u : Int32} : AW d 137 26 [x0, .int u, x2, x3] (.int v :: st) σ ρ g τ Q = AW d 137 27 [x0, .int u, .int v, x3] (st) σ ρ g τ Q := aw_lc m137 d137_26 rfl rfl rfl
theorem d137_27 : decode cX11_bearsFrom 27 = .ok (.iinc 3 (-1), 3) := by decide +kernel
theorem s137_27 {d : Nat} {st : List Value} {σ : am_I} {ρ : am_R} {g : am_J} {τ : am_T} {Q : am_Q} {x0 x1 : Value} {v : Int32} {u : Int32} : AW d 137 27 [x0, x1, .int u, .int v] (st) σ ρ g τ Q = AW d 137 30 [x0, x1, .int u, .int (v + (-1))] (st) σ ρ g τ Q := aw_lc m137 d137_27 rfl rfl rfl
theorem d137_30 : decode cX11_bearsFrom 30 = .ok (.goto (-23), 3) := by decide +kernel
theorem s137_30 {d : Nat} {st : List Value} {σ : am_I} {ρ : am_R} {g : am_J} {τ : am_T} {Q : am_Q} {x0 x1 x2 x3 : Value} : AW d 137 30 [x0, x1, x2, x3] (st) σ ρ g τ Q = AW d 137 7 [x0, x1, x2, x3] (st) σ ρ g τ Q := aw_lc m137 d137_30 rfl rfl rfl
theorem d137_33 : decode cX11_bearsFrom 33 = .ok (.iload_n 2, 1) := by decide +kernel
theorem s137_33 {d : Nat} {st : List Value} {σ : am_I} {ρ : am_R} {g : am_J} {τ : am_T} {Q : am_Q} {x0 x1 x3 : Value} {v : Int32} : AW d 137 33 [x0, x1, .int v, x3] (st) σ ρ g τ Q = AW d 137 34 [x0, x1, .int v, x3] (.int v :: st) σ ρ g τ Q := aw_lc m137 d137_33 rfl rfl rfl
theorem d137_34 : decode cX11_bearsFrom 34 = .ok (.ireturn, 1) := by decide +kernel
theorem s137_34 {d : Nat} {σ : am_I} {ρ : am_R} {g : am_J} {τ : am_T} {Q : am_Q} {x0 x1 x2 x3 : Value} {v : Int32} : AW d 137 34 [x0, x1, x2, x3] ([.int v]) σ ρ g τ Q = Q (some (.int v)) σ ρ g τ := aw_ri m137 d137_34 rfl
theorem d138_0 : decode cX11_paper 0 = .ok (.iload_n 1, 1) := by decide +kernel
theorem s138_0 {d : Nat} {st : List Value} {σ : am_I} {ρ : am_R} {g : am_J} {τ : am_T} {Q : am_Q} {x0 x2 x3 x4 x5 : Value} {v : Int32} : AW d 138 0 [x0, .int v, x2, x3, x4, x5] (st) σ ρ g τ Q = AW d 138 1 [x0, .int v, x2, x3, x4, x5] (.int v :: st) σ ρ g τ Q := aw_lc m138 d138_0 rfl rfl rfl
theorem d138_1 : decode cX11_paper 1 = .ok (.iconst 0, 1) := by decide +kernel
theorem s138_1 {d : Nat} {st : List Value} {σ : am_I} {ρ : am_R} {g : am_J} {τ : am_T} {Q : am_Q} {x0 x1 x2 x3 x4 x5 : Value} : AW d 138 1 [x0, x1, x2, x3, x4, x5] (st) σ ρ g τ Q = AW d 138 2 [x0, x1, x2, x3, x4, x5] (.int 0 :: st) σ ρ g τ Q := aw_lc m138 d138_1 rfl rfl rfl
theorem d138_2 : decode cX11_paper 2 = .ok (.iconst 1, 1) := by decide +kernel
theorem s138_2 {d : Nat} {st : List Value} {σ : am_I} {ρ : am_R} {g : am_J} {τ : am_T} {Q : am_Q} {x0 x1 x2 x3 x4 x5 : Value} : AW d 138 2 [x0, x1, x2, x3, x4, x5] (st) σ ρ g τ Q = AW d 138 3 [x0, x1, x2, x3, x4, x5] (.int 1 :: st) σ ρ g τ Q := aw_lc m138 d138_2 rfl rfl rfl
theorem d138_3 : decode cX11_paper 3 = .ok (.invokestatic 74, 3) := by decide +kernel
theorem s138_3 {d : Nat} {st : List Value} {σ : am_I} {ρ : am_R} {g : am_J} {τ : am_T} {Q : am_Q} {x0 x1 x2 x3 x4 x5 : Value} {p0 : Int32} {p1 : Int32} {p2 : Int32} (hs : st.length ≤ 4) : AW (d + 1) 138 3 [x0, x1, x2, x3, x4, x5] (.int p2 :: .int p1 :: .int p0 :: st) σ ρ g τ Q = AW d 100 0 [.int p0, .int p1, .int p2] [] σ ρ g τ (fun r9 σ ρ g τ => AW (d + 1) 138 6 [x0, x1, x2, x3, x4, x5] (r9.toList ++ st) σ ρ g τ Q) := aw_cs m138 d138_3 rfl (by simp only [List.length_cons]; omega) rfl rfl en100 ok100 rfl hs
theorem d138_6 : decode cX11_paper 6 = .ok (.ifCond .eq 28, 3) := by decide +kernel
theorem s138_6 {d : Nat} {st : List Value} {σ : am_I} {ρ : am_R} {g : am_J} {τ : am_T} {Q : am_Q} {x0 x1 x2 x3 x4 x5 : Value} {v : Int32} : AW d 138 6 [x0, x1, x2, x3, x4, x5] (.int v :: st) σ ρ g τ Q = if v = 0 then AW d 138 34 [x0, x1, x2, x3, x4, x5] (st) σ ρ g τ Q else AW d 138 9 [x0, x1, x2, x3, x4, x5] (st) σ ρ g τ Q := aw_br m138 d138_6 rfl rfl rfl
theorem d138_9 : decode cX11_paper 9 = .ok (.iload_n 2, 1) := by decide +kernel
theorem s138_9 {d : Nat} {st : List Value} {σ : am_I} {ρ : am_R} {g : am_J} {τ : am_T} {Q : am_Q} {x0 x1 x3 x4 x5 : Value} {v : Int32} : AW d 138 9 [x0, x1, .int v, x3, x4, x5] (st) σ ρ g τ Q = AW d 138 10 [x0, x1, .int v, x3, x4, x5] (.int v :: st) σ ρ g τ Q := aw_lc m138 d138_9 rfl rfl rfl
theorem d138_10 : decode cX11_paper 10 = .ok (.invokestatic 196, 3) := by decide +kernel
theorem s138_10 {d : Nat} {st : List Value} {σ : am_I} {ρ : am_R} {g : am_J} {τ : am_T} {Q : am_Q} {x0 x1 x2 x3 x4 x5 : Value} {p0 : Int32} (hs : st.length ≤ 4) : AW (d + 1) 138 10 [x0, x1, x2, x3, x4, x5] (.int p0 :: st) σ ρ g τ Q = AW d 104 0 [.int p0] [] σ ρ g τ (fun r9 σ ρ g τ => AW (d + 1) 138 13 [x0, x1, x2, x3, x4, x5] (r9.toList ++ st) σ ρ g τ Q) := aw_cs m138 d138_10 rfl (by simp only [List.length_cons]; omega) rfl rfl en104 ok104 rfl hs
theorem d138_13 : decode cX11_paper 13 = .ok (.ifCond .eq 21, 3) := by decide +kernel
theorem s138_13 {d : Nat} {st : List Value} {σ : am_I} {ρ : am_R} {g : am_J} {τ : am_T} {Q : am_Q} {x0 x1 x2 x3 x4 x5 : Value} {v : Int32} : AW d 138 13 [x0, x1, x2, x3, x4, x5] (.int v :: st) σ ρ g τ Q = if v = 0 then AW d 138 34 [x0, x1, x2, x3, x4, x5] (st) σ ρ g τ Q else AW d 138 16 [x0, x1, x2, x3, x4, x5] (st) σ ρ g τ Q := aw_br m138 d138_13 rfl rfl rfl
theorem d138_16 : decode cX11_paper 16 = .ok (.iload_n 3, 1) := by decide +kernel
theorem s138_16 {d : Nat} {st : List Value} {σ : am_I} {ρ : am_R} {g : am_J} {τ : am_T} {Q : am_Q} {x0 x1 x2 x4 x5 : Value} {v : Int32} : AW d 138 16 [x0, x1, x2, .int v, x4, x5] (st) σ ρ g τ Q = AW d 138 17 [x0, x1, x2, .int v, x4, x5] (.int v :: st) σ ρ g τ Q := aw_lc m138 d138_16 rfl rfl rfl
theorem d138_17 : decode cX11_paper 17 = .ok (.iconst 0, 1) := by decide +kernel
theorem s138_17 {d : Nat} {st : List Value} {σ : am_I} {ρ : am_R} {g : am_J} {τ : am_T} {Q : am_Q} {x0 x1 x2 x3 x4 x5 : Value} : AW d 138 17 [x0, x1, x2, x3, x4, x5] (st) σ ρ g τ Q = AW d 138 18 [x0, x1, x2, x3, x4, x5] (.int 0 :: st) σ ρ g τ Q := aw_lc m138 d138_17 rfl rfl rfl
theorem d138_18 : decode cX11_paper 18 = .ok (.bipush 49, 2) := by decide +kernel
theorem s138_18 {d : Nat} {st : List Value} {σ : am_I} {ρ : am_R} {g : am_J} {τ : am_T} {Q : am_Q} {x0 x1 x2 x3 x4 x5 : Value} : AW d 138 18 [x0, x1, x2, x3, x4, x5] (st) σ ρ g τ Q = AW d 138 20 [x0, x1, x2, x3, x4, x5] (.int 49 :: st) σ ρ g τ Q := aw_lc m138 d138_18 rfl rfl rfl
theorem d138_20 : decode cX11_paper 20 = .ok (.invokestatic 74, 3) := by decide +kernel
theorem s138_20 {d : Nat} {st : List Value} {σ : am_I} {ρ : am_R} {g : am_J} {τ : am_T} {Q : am_Q} {x0 x1 x2 x3 x4 x5 : Value} {p0 : Int32} {p1 : Int32} {p2 : Int32} (hs : st.length ≤ 4) : AW (d + 1) 138 20 [x0, x1, x2, x3, x4, x5] (.int p2 :: .int p1 :: .int p0 :: st) σ ρ g τ Q = AW d 100 0 [.int p0, .int p1, .int p2] [] σ ρ g τ (fun r9 σ ρ g τ => AW (d + 1) 138 23 [x0, x1, x2, x3, x4, x5] (r9.toList ++ st) σ ρ g τ Q) := aw_cs m138 d138_20 rfl (by simp only [List.length_cons]; omega) rfl rfl en100 ok100 rfl hs
theorem d138_23 : decode cX11_paper 23 = .ok (.ifCond .eq 11, 3) := by decide +kernel
theorem s138_23 {d : Nat} {st : List Value} {σ : am_I} {ρ : am_R} {g : am_J} {τ : am_T} {Q : am_Q} {x0 x1 x2 x3 x4 x5 : Value} {v : Int32} : AW d 138 23 [x0, x1, x2, x3, x4, x5] (.int v :: st) σ ρ g τ Q = if v = 0 then AW d 138 34 [x0, x1, x2, x3, x4, x5] (st) σ ρ g τ Q else AW d 138 26 [x0, x1, x2, x3, x4, x5] (st) σ ρ g τ Q := aw_br m138 d138_23 rfl rfl rfl
theorem d138_26 : decode cX11_paper 26 = .ok (.iload 4, 2) := by decide +kernel
theorem s138_26 {d : Nat} {st : List Value} {σ : am_I} {ρ : am_R} {g : am_J} {τ : am_T} {Q : am_Q} {x0 x1 x2 x3 x5 : Value} {v : Int32} : AW d 138 26 [x0, x1, x2, x3, .int v, x5] (st) σ ρ g τ Q = AW d 138 28 [x0, x1, x2, x3, .int v, x5] (.int v :: st) σ ρ g τ Q := aw_lc m138 d138_26 rfl rfl rfl
theorem d138_28 : decode cX11_paper 28 = .ok (.invokestatic 149, 3) := by decide +kernel
theorem s138_28 {d : Nat} {st : List Value} {σ : am_I} {ρ : am_R} {g : am_J} {τ : am_T} {Q : am_Q} {x0 x1 x2 x3 x4 x5 : Value} {p0 : Int32} (hs : st.length ≤ 4) : AW (d + 1) 138 28 [x0, x1, x2, x3, x4, x5] (.int p0 :: st) σ ρ g τ Q = AW d 101 0 [.int p0] [] σ ρ g τ (fun r9 σ ρ g τ => AW (d + 1) 138 31 [x0, x1, x2, x3, x4, x5] (r9.toList ++ st) σ ρ g τ Q) := aw_cs m138 d138_28 rfl (by simp only [List.length_cons]; omega) rfl rfl en101 ok101 rfl hs
theorem d138_31 : decode cX11_paper 31 = .ok (.ifCond .ne 5, 3) := by decide +kernel
theorem s138_31 {d : Nat} {st : List Value} {σ : am_I} {ρ : am_R} {g : am_J} {τ : am_T} {Q : am_Q} {x0 x1 x2 x3 x4 x5 : Value} {v : Int32} : AW d 138 31 [x0, x1, x2, x3, x4, x5] (.int v :: st) σ ρ g τ Q = if ¬ v = 0 then AW d 138 36 [x0, x1, x2, x3, x4, x5] (st) σ ρ g τ Q else AW d 138 34 [x0, x1, x2, x3, x4, x5] (st) σ ρ g τ Q := aw_br m138 d138_31 rfl rfl rfl
theorem d138_34 : decode cX11_paper 34 = .ok (.iconst (-1), 1) := by decide +kernel
theorem s138_34 {d : Nat} {st : List Value} {σ : am_I} {ρ : am_R} {g : am_J} {τ : am_T} {Q : am_Q} {x0 x1 x2 x3 x4 x5 : Value} : AW d 138 34 [x0, x1, x2, x3, x4, x5] (st) σ ρ g τ Q = AW d 138 35 [x0, x1, x2, x3, x4, x5] (.int (-1) :: st) σ ρ g τ Q := aw_lc m138 d138_34 rfl rfl rfl
theorem d138_35 : decode cX11_paper 35 = .ok (.ireturn, 1) := by decide +kernel
theorem s138_35 {d : Nat} {σ : am_I} {ρ : am_R} {g : am_J} {τ : am_T} {Q : am_Q} {x0 x1 x2 x3 x4 x5 : Value} {v : Int32} : AW d 138 35 [x0, x1, x2, x3, x4, x5] ([.int v]) σ ρ g τ Q = Q (some (.int v)) σ ρ g τ := aw_ri m138 d138_35 rfl
theorem d138_36 : decode cX11_paper 36 = .ok (.aload_n 0, 1) := by decide +kernel
theorem s138_36 {d : Nat} {st : List Value} {σ : am_I} {ρ : am_R} {g : am_J} {τ : am_T} {Q : am_Q} {x1 x2 x3 x4 x5 : Value} {v : Nat} : AW d 138 36 [.ref v, x1, x2, x3, x4, x5] (st) σ ρ g τ Q = AW d 138 37 [.ref v, x1, x2, x3, x4, x5] (.ref v :: st) σ ρ g τ Q := aw_lc m138 d138_36 rfl rfl rfl
theorem d138_37 : decode cX11_paper 37 = .ok (.getfield 10, 3) := by decide +kernel
theorem s138_37 {d : Nat} {st : List Value} {σ : am_I} {ρ : am_R} {g : am_J} {τ : am_T} {Q : am_Q} {x0 x1 x2 x3 x4 x5 : Value} {a : Nat} (ht : τ.1 a = 11) : AW d 138 37 [x0, x1, x2, x3, x4, x5] (.ref a :: st) σ ρ g τ Q = AW d 138 40 [x0, x1, x2, x3, x4, x5] (va_rf (ρ a 0) :: st) σ ρ g τ Q := aw_gr m138 d138_37 rfl rfl rfl ht
theorem d138_40 : decode cX11_paper 40 = .ok (.getfield 352, 3) := by decide +kernel
theorem s138_40 {d : Nat} {st : List Value} {σ : am_I} {ρ : am_R} {g : am_J} {τ : am_T} {Q : am_Q} {x0 x1 x2 x3 x4 x5 : Value} {a : Nat} (ht : τ.1 a = 3) : AW d 138 40 [x0, x1, x2, x3, x4, x5] (.ref a :: st) σ ρ g τ Q = AW d 138 43 [x0, x1, x2, x3, x4, x5] (va_rf (ρ a 13) :: st) σ ρ g τ Q := aw_gr m138 d138_40 rfl rfl rfl ht
theorem d138_43 : decode cX11_paper 43 = .ok (.invokevirtual 326, 3) := by decide +kernel
theorem s138_43 {d : Nat} {st : List Value} {σ : am_I} {ρ : am_R} {g : am_J} {τ : am_T} {Q : am_Q} {x0 x1 x2 x3 x4 x5 : Value} {p0 : Nat} (ht : τ.1 p0 = 4) (hs : st.length ≤ 4) : AW (d + 1) 138 43 [x0, x1, x2, x3, x4, x5] (.ref p0 :: st) σ ρ g τ Q = AW d 43 0 [.ref p0] [] σ ρ g τ (fun r9 σ ρ g τ => AW (d + 1) 138 46 [x0, x1, x2, x3, x4, x5] (r9.toList ++ st) σ ρ g τ Q) := aw_cv m138 d138_43 rfl m43 rfl rfl (by decide) en43 ok43 rfl ht hs
theorem d138_46 : decode cX11_paper 46 = .ok (.ifCond .eq 6, 3) := by decide +kernel
theorem s138_46 {d : Nat} {st : List Value} {σ : am_I} {ρ : am_R} {g : am_J} {τ : am_T} {Q : am_Q} {x0 x1 x2 x3 x4 x5 : Value} {v : Int32} : AW d 138 46 [x0, x1, x2, x3, x4, x5] (.int v :: st) σ ρ g τ Q = if v = 0 then AW d 138 52 [x0, x1, x2, x3, x4, x5] (st) σ ρ g τ Q else AW d 138 49 [x0, x1, x2, x3, x4, x5] (st) σ ρ g τ Q := aw_br m138 d138_46 rfl rfl rfl
theorem d138_49 : decode cX11_paper 49 = .ok (.bipush (-2), 2) := by decide +kernel
theorem s138_49 {d : Nat} {st : List Value} {σ : am_I} {ρ : am_R} {g : am_J} {τ : am_T} {Q : am_Q} {x0 x1 x2 x3 x4 x5 : Value} : AW d 138 49 [x0, x1, x2, x3, x4, x5] (st) σ ρ g τ Q = AW d 138 51 [x0, x1, x2, x3, x4, x5] (.int (-2) :: st) σ ρ g τ Q := aw_lc m138 d138_49 rfl rfl rfl
theorem d138_51 : decode cX11_paper 51 = .ok (.ireturn, 1) := by decide +kernel
theorem s138_51 {d : Nat} {σ : am_I} {ρ : am_R} {g : am_J} {τ : am_T} {Q : am_Q} {x0 x1 x2 x3 x4 x5 : Value} {v : Int32} : AW d 138 51 [x0, x1, x2, x3, x4, x5] ([.int v]) σ ρ g τ Q = Q (some (.int v)) σ ρ g τ := aw_ri m138 d138_51 rfl
theorem d138_52 : decode cX11_paper 52 = .ok (.aload_n 0, 1) := by decide +kernel
theorem s138_52 {d : Nat} {st : List Value} {σ : am_I} {ρ : am_R} {g : am_J} {τ : am_T} {Q : am_Q} {x1 x2 x3 x4 x5 : Value} {v : Nat} : AW d 138 52 [.ref v, x1, x2, x3, x4, x5] (st) σ ρ g τ Q = AW d 138 53 [.ref v, x1, x2, x3, x4, x5] (.ref v :: st) σ ρ g τ Q := aw_lc m138 d138_52 rfl rfl rfl
theorem d138_53 : decode cX11_paper 53 = .ok (.getfield 10, 3) := by decide +kernel
theorem s138_53 {d : Nat} {st : List Value} {σ : am_I} {ρ : am_R} {g : am_J} {τ : am_T} {Q : am_Q} {x0 x1 x2 x3 x4 x5 : Value} {a : Nat} (ht : τ.1 a = 11) : AW d 138 53 [x0, x1, x2, x3, x4, x5] (.ref a :: st) σ ρ g τ Q = AW d 138 56 [x0, x1, x2, x3, x4, x5] (va_rf (ρ a 0) :: st) σ ρ g τ Q := aw_gr m138 d138_53 rfl rfl rfl ht
theorem d138_56 : decode cX11_paper 56 = .ok (.getfield 352, 3) := by decide +kernel
theorem s138_56 {d : Nat} {st : List Value} {σ : am_I} {ρ : am_R} {g : am_J} {τ : am_T} {Q : am_Q} {x0 x1 x2 x3 x4 x5 : Value} {a : Nat} (ht : τ.1 a = 3) : AW d 138 56 [x0, x1, x2, x3, x4, x5] (.ref a :: st) σ ρ g τ Q = AW d 138 59 [x0, x1, x2, x3, x4, x5] (va_rf (ρ a 13) :: st) σ ρ g τ Q := aw_gr m138 d138_56 rfl rfl rfl ht
theorem d138_59 : decode cX11_paper 59 = .ok (.invokevirtual 329, 3) := by decide +kernel
theorem s138_59 {d : Nat} {st : List Value} {σ : am_I} {ρ : am_R} {g : am_J} {τ : am_T} {Q : am_Q} {x0 x1 x2 x3 x4 x5 : Value} {p0 : Nat} (ht : τ.1 p0 = 4) (hs : st.length ≤ 4) : AW (d + 1) 138 59 [x0, x1, x2, x3, x4, x5] (.ref p0 :: st) σ ρ g τ Q = AW d 45 0 [.ref p0] [] σ ρ g τ (fun r9 σ ρ g τ => AW (d + 1) 138 62 [x0, x1, x2, x3, x4, x5] (r9.toList ++ st) σ ρ g τ Q) := aw_cv m138 d138_59 rfl m45 rfl rfl (by decide) en45 ok45 rfl ht hs
theorem d138_62 : decode cX11_paper 62 = .ok (.istore 5, 2) := by decide +kernel
theorem s138_62 {d : Nat} {st : List Value} {σ : am_I} {ρ : am_R} {g : am_J} {τ : am_T} {Q : am_Q} {x0 x1 x2 x3 x5 : Value} {v : Int32} {u : Int32} : AW d 138 62 [x0, x1, x2, x3, .int u, x5] (.int v :: st) σ ρ g τ Q = AW d 138 64 [x0, x1, x2, x3, .int u, .int v] (st) σ ρ g τ Q := aw_lc m138 d138_62 rfl rfl rfl
theorem d138_64 : decode cX11_paper 64 = .ok (.aload_n 0, 1) := by decide +kernel
theorem s138_64 {d : Nat} {st : List Value} {σ : am_I} {ρ : am_R} {g : am_J} {τ : am_T} {Q : am_Q} {x1 x2 x3 x4 x5 : Value} {v : Nat} : AW d 138 64 [.ref v, x1, x2, x3, x4, x5] (st) σ ρ g τ Q = AW d 138 65 [.ref v, x1, x2, x3, x4, x5] (.ref v :: st) σ ρ g τ Q := aw_lc m138 d138_64 rfl rfl rfl
theorem d138_65 : decode cX11_paper 65 = .ok (.getfield 10, 3) := by decide +kernel
theorem s138_65 {d : Nat} {st : List Value} {σ : am_I} {ρ : am_R} {g : am_J} {τ : am_T} {Q : am_Q} {x0 x1 x2 x3 x4 x5 : Value} {a : Nat} (ht : τ.1 a = 11) : AW d 138 65 [x0, x1, x2, x3, x4, x5] (.ref a :: st) σ ρ g τ Q = AW d 138 68 [x0, x1, x2, x3, x4, x5] (va_rf (ρ a 0) :: st) σ ρ g τ Q := aw_gr m138 d138_65 rfl rfl rfl ht
theorem d138_68 : decode cX11_paper 68 = .ok (.getfield 352, 3) := by decide +kernel
theorem s138_68 {d : Nat} {st : List Value} {σ : am_I} {ρ : am_R} {g : am_J} {τ : am_T} {Q : am_Q} {x0 x1 x2 x3 x4 x5 : Value} {a : Nat} (ht : τ.1 a = 3) : AW d 138 68 [x0, x1, x2, x3, x4, x5] (.ref a :: st) σ ρ g τ Q = AW d 138 71 [x0, x1, x2, x3, x4, x5] (va_rf (ρ a 13) :: st) σ ρ g τ Q := aw_gr m138 d138_68 rfl rfl rfl ht
theorem d138_71 : decode cX11_paper 71 = .ok (.iload 5, 2) := by decide +kernel
theorem s138_71 {d : Nat} {st : List Value} {σ : am_I} {ρ : am_R} {g : am_J} {τ : am_T} {Q : am_Q} {x0 x1 x2 x3 x4 : Value} {v : Int32} : AW d 138 71 [x0, x1, x2, x3, x4, .int v] (st) σ ρ g τ Q = AW d 138 73 [x0, x1, x2, x3, x4, .int v] (.int v :: st) σ ρ g τ Q := aw_lc m138 d138_71 rfl rfl rfl
theorem d138_73 : decode cX11_paper 73 = .ok (.iconst 0, 1) := by decide +kernel
theorem s138_73 {d : Nat} {st : List Value} {σ : am_I} {ρ : am_R} {g : am_J} {τ : am_T} {Q : am_Q} {x0 x1 x2 x3 x4 x5 : Value} : AW d 138 73 [x0, x1, x2, x3, x4, x5] (st) σ ρ g τ Q = AW d 138 74 [x0, x1, x2, x3, x4, x5] (.int 0 :: st) σ ρ g τ Q := aw_lc m138 d138_73 rfl rfl rfl
theorem d138_74 : decode cX11_paper 74 = .ok (.iload_n 1, 1) := by decide +kernel
theorem s138_74 {d : Nat} {st : List Value} {σ : am_I} {ρ : am_R} {g : am_J} {τ : am_T} {Q : am_Q} {x0 x2 x3 x4 x5 : Value} {v : Int32} : AW d 138 74 [x0, .int v, x2, x3, x4, x5] (st) σ ρ g τ Q = AW d 138 75 [x0, .int v, x2, x3, x4, x5] (.int v :: st) σ ρ g τ Q := aw_lc m138 d138_74 rfl rfl rfl
theorem d138_75 : decode cX11_paper 75 = .ok (.invokevirtual 332, 3) := by decide +kernel
theorem s138_75 {d : Nat} {st : List Value} {σ : am_I} {ρ : am_R} {g : am_J} {τ : am_T} {Q : am_Q} {x0 x1 x2 x3 x4 x5 : Value} {p0 : Nat} {p1 : Int32} {p2 : Int32} {p3 : Int32} (ht : τ.1 p0 = 4) (hs : st.length ≤ 4) : AW (d + 1) 138 75 [x0, x1, x2, x3, x4, x5] (.int p3 :: .int p2 :: .int p1 :: .ref p0 :: st) σ ρ g τ Q = AW d 47 0 [.ref p0, .int p1, .int p2, .int p3] [] σ ρ g τ (fun r9 σ ρ g τ => AW (d + 1) 138 78 [x0, x1, x2, x3, x4, x5] (r9.toList ++ st) σ ρ g τ Q) := aw_cv m138 d138_75 rfl m47 rfl rfl (by decide) en47 ok47 rfl ht hs
theorem d138_78 : decode cX11_paper 78 = .ok (.aload_n 0, 1) := by decide +kernel
theorem s138_78 {d : Nat} {st : List Value} {σ : am_I} {ρ : am_R} {g : am_J} {τ : am_T} {Q : am_Q} {x1 x2 x3 x4 x5 : Value} {v : Nat} : AW d 138 78 [.ref v, x1, x2, x3, x4, x5] (st) σ ρ g τ Q = AW d 138 79 [.ref v, x1, x2, x3, x4, x5] (.ref v :: st) σ ρ g τ Q := aw_lc m138 d138_78 rfl rfl rfl
theorem d138_79 : decode cX11_paper 79 = .ok (.getfield 10, 3) := by decide +kernel
theorem s138_79 {d : Nat} {st : List Value} {σ : am_I} {ρ : am_R} {g : am_J} {τ : am_T} {Q : am_Q} {x0 x1 x2 x3 x4 x5 : Value} {a : Nat} (ht : τ.1 a = 11) : AW d 138 79 [x0, x1, x2, x3, x4, x5] (.ref a :: st) σ ρ g τ Q = AW d 138 82 [x0, x1, x2, x3, x4, x5] (va_rf (ρ a 0) :: st) σ ρ g τ Q := aw_gr m138 d138_79 rfl rfl rfl ht
theorem d138_82 : decode cX11_paper 82 = .ok (.getfield 352, 3) := by decide +kernel
theorem s138_82 {d : Nat} {st : List Value} {σ : am_I} {ρ : am_R} {g : am_J} {τ : am_T} {Q : am_Q} {x0 x1 x2 x3 x4 x5 : Value} {a : Nat} (ht : τ.1 a = 3) : AW d 138 82 [x0, x1, x2, x3, x4, x5] (.ref a :: st) σ ρ g τ Q = AW d 138 85 [x0, x1, x2, x3, x4, x5] (va_rf (ρ a 13) :: st) σ ρ g τ Q := aw_gr m138 d138_82 rfl rfl rfl ht
theorem d138_85 : decode cX11_paper 85 = .ok (.iload 5, 2) := by decide +kernel
theorem s138_85 {d : Nat} {st : List Value} {σ : am_I} {ρ : am_R} {g : am_J} {τ : am_T} {Q : am_Q} {x0 x1 x2 x3 x4 : Value} {v : Int32} : AW d 138 85 [x0, x1, x2, x3, x4, .int v] (st) σ ρ g τ Q = AW d 138 87 [x0, x1, x2, x3, x4, .int v] (.int v :: st) σ ρ g τ Q := aw_lc m138 d138_85 rfl rfl rfl
theorem d138_87 : decode cX11_paper 87 = .ok (.iconst 1, 1) := by decide +kernel
theorem s138_87 {d : Nat} {st : List Value} {σ : am_I} {ρ : am_R} {g : am_J} {τ : am_T} {Q : am_Q} {x0 x1 x2 x3 x4 x5 : Value} : AW d 138 87 [x0, x1, x2, x3, x4, x5] (st) σ ρ g τ Q = AW d 138 88 [x0, x1, x2, x3, x4, x5] (.int 1 :: st) σ ρ g τ Q := aw_lc m138 d138_87 rfl rfl rfl
theorem d138_88 : decode cX11_paper 88 = .ok (.iload_n 2, 1) := by decide +kernel
theorem s138_88 {d : Nat} {st : List Value} {σ : am_I} {ρ : am_R} {g : am_J} {τ : am_T} {Q : am_Q} {x0 x1 x3 x4 x5 : Value} {v : Int32} : AW d 138 88 [x0, x1, .int v, x3, x4, x5] (st) σ ρ g τ Q = AW d 138 89 [x0, x1, .int v, x3, x4, x5] (.int v :: st) σ ρ g τ Q := aw_lc m138 d138_88 rfl rfl rfl
theorem d138_89 : decode cX11_paper 89 = .ok (.invokevirtual 332, 3) := by decide +kernel
theorem s138_89 {d : Nat} {st : List Value} {σ : am_I} {ρ : am_R} {g : am_J} {τ : am_T} {Q : am_Q} {x0 x1 x2 x3 x4 x5 : Value} {p0 : Nat} {p1 : Int32} {p2 : Int32} {p3 : Int32} (ht : τ.1 p0 = 4) (hs : st.length ≤ 4) : AW (d + 1) 138 89 [x0, x1, x2, x3, x4, x5] (.int p3 :: .int p2 :: .int p1 :: .ref p0 :: st) σ ρ g τ Q = AW d 47 0 [.ref p0, .int p1, .int p2, .int p3] [] σ ρ g τ (fun r9 σ ρ g τ => AW (d + 1) 138 92 [x0, x1, x2, x3, x4, x5] (r9.toList ++ st) σ ρ g τ Q) := aw_cv m138 d138_89 rfl m47 rfl rfl (by decide) en47 ok47 rfl ht hs
theorem d138_92 : decode cX11_paper 92 = .ok (.aload_n 0, 1) := by decide +kernel
theorem s138_92 {d : Nat} {st : List Value} {σ : am_I} {ρ : am_R} {g : am_J} {τ : am_T} {Q : am_Q} {x1 x2 x3 x4 x5 : Value} {v : Nat} : AW d 138 92 [.ref v, x1, x2, x3, x4, x5] (st) σ ρ g τ Q = AW d 138 93 [.ref v, x1, x2, x3, x4, x5] (.ref v :: st) σ ρ g τ Q := aw_lc m138 d138_92 rfl rfl rfl
theorem d138_93 : decode cX11_paper 93 = .ok (.getfield 10, 3) := by decide +kernel
theorem s138_93 {d : Nat} {st : List Value} {σ : am_I} {ρ : am_R} {g : am_J} {τ : am_T} {Q : am_Q} {x0 x1 x2 x3 x4 x5 : Value} {a : Nat} (ht : τ.1 a = 11) : AW d 138 93 [x0, x1, x2, x3, x4, x5] (.ref a :: st) σ ρ g τ Q = AW d 138 96 [x0, x1, x2, x3, x4, x5] (va_rf (ρ a 0) :: st) σ ρ g τ Q := aw_gr m138 d138_93 rfl rfl rfl ht
theorem d138_96 : decode cX11_paper 96 = .ok (.getfield 352, 3) := by decide +kernel
theorem s138_96 {d : Nat} {st : List Value} {σ : am_I} {ρ : am_R} {g : am_J} {τ : am_T} {Q : am_Q} {x0 x1 x2 x3 x4 x5 : Value} {a : Nat} (ht : τ.1 a = 3) : AW d 138 96 [x0, x1, x2, x3, x4, x5] (.ref a :: st) σ ρ g τ Q = AW d 138 99 [x0, x1, x2, x3, x4, x5] (va_rf (ρ a 13) :: st) σ ρ g τ Q := aw_gr m138 d138_96 rfl rfl rfl ht
theorem d138_99 : decode cX11_paper 99 = .ok (.iload 5, 2) := by decide +kernel
theorem s138_99 {d : Nat} {st : List Value} {σ : am_I} {ρ : am_R} {g : am_J} {τ : am_T} {Q : am_Q} {x0 x1 x2 x3 x4 : Value} {v : Int32} : AW d 138 99 [x0, x1, x2, x3, x4, .int v] (st) σ ρ g τ Q = AW d 138 101 [x0, x1, x2, x3, x4, .int v] (.int v :: st) σ ρ g τ Q := aw_lc m138 d138_99 rfl rfl rfl
theorem d138_101 : decode cX11_paper 101 = .ok (.iconst 2, 1) := by decide +kernel
theorem s138_101 {d : Nat} {st : List Value} {σ : am_I} {ρ : am_R} {g : am_J} {τ : am_T} {Q : am_Q} {x0 x1 x2 x3 x4 x5 : Value} : AW d 138 101 [x0, x1, x2, x3, x4, x5] (st) σ ρ g τ Q = AW d 138 102 [x0, x1, x2, x3, x4, x5] (.int 2 :: st) σ ρ g τ Q := aw_lc m138 d138_101 rfl rfl rfl
theorem d138_102 : decode cX11_paper 102 = .ok (.iload_n 3, 1) := by decide +kernel
theorem s138_102 {d : Nat} {st : List Value} {σ : am_I} {ρ : am_R} {g : am_J} {τ : am_T} {Q : am_Q} {x0 x1 x2 x4 x5 : Value} {v : Int32} : AW d 138 102 [x0, x1, x2, .int v, x4, x5] (st) σ ρ g τ Q = AW d 138 103 [x0, x1, x2, .int v, x4, x5] (.int v :: st) σ ρ g τ Q := aw_lc m138 d138_102 rfl rfl rfl
theorem d138_103 : decode cX11_paper 103 = .ok (.bipush 10, 2) := by decide +kernel
theorem s138_103 {d : Nat} {st : List Value} {σ : am_I} {ρ : am_R} {g : am_J} {τ : am_T} {Q : am_Q} {x0 x1 x2 x3 x4 x5 : Value} : AW d 138 103 [x0, x1, x2, x3, x4, x5] (st) σ ρ g τ Q = AW d 138 105 [x0, x1, x2, x3, x4, x5] (.int 10 :: st) σ ρ g τ Q := aw_lc m138 d138_103 rfl rfl rfl
theorem d138_105 : decode cX11_paper 105 = .ok (.idiv, 1) := by decide +kernel
theorem s138_105 {d : Nat} {st : List Value} {σ : am_I} {ρ : am_R} {g : am_J} {τ : am_T} {Q : am_Q} {x0 x1 x2 x3 x4 x5 : Value} {v w : Int32} (h0 : ¬ w = 0) : AW d 138 105 [x0, x1, x2, x3, x4, x5] (.int w :: .int v :: st) σ ρ g τ Q = AW d 138 106 [x0, x1, x2, x3, x4, x5] (.int (v / w) :: st) σ ρ g τ Q := aw_div m138 d138_105 h0 rfl
theorem d138_106 : decode cX11_paper 106 = .ok (.invokevirtual 332, 3) := by decide +kernel
theorem s138_106 {d : Nat} {st : List Value} {σ : am_I} {ρ : am_R} {g : am_J} {τ : am_T} {Q : am_Q} {x0 x1 x2 x3 x4 x5 : Value} {p0 : Nat} {p1 : Int32} {p2 : Int32} {p3 : Int32} (ht : τ.1 p0 = 4) (hs : st.length ≤ 4) : AW (d + 1) 138 106 [x0, x1, x2, x3, x4, x5] (.int p3 :: .int p2 :: .int p1 :: .ref p0 :: st) σ ρ g τ Q = AW d 47 0 [.ref p0, .int p1, .int p2, .int p3] [] σ ρ g τ (fun r9 σ ρ g τ => AW (d + 1) 138 109 [x0, x1, x2, x3, x4, x5] (r9.toList ++ st) σ ρ g τ Q) := aw_cv m138 d138_106 rfl m47 rfl rfl (by decide) en47 ok47 rfl ht hs
theorem d138_109 : decode cX11_paper 109 = .ok (.aload_n 0, 1) := by decide +kernel
theorem s138_109 {d : Nat} {st : List Value} {σ : am_I} {ρ : am_R} {g : am_J} {τ : am_T} {Q : am_Q} {x1 x2 x3 x4 x5 : Value} {v : Nat} : AW d 138 109 [.ref v, x1, x2, x3, x4, x5] (st) σ ρ g τ Q = AW d 138 110 [.ref v, x1, x2, x3, x4, x5] (.ref v :: st) σ ρ g τ Q := aw_lc m138 d138_109 rfl rfl rfl
theorem d138_110 : decode cX11_paper 110 = .ok (.getfield 10, 3) := by decide +kernel
theorem s138_110 {d : Nat} {st : List Value} {σ : am_I} {ρ : am_R} {g : am_J} {τ : am_T} {Q : am_Q} {x0 x1 x2 x3 x4 x5 : Value} {a : Nat} (ht : τ.1 a = 11) : AW d 138 110 [x0, x1, x2, x3, x4, x5] (.ref a :: st) σ ρ g τ Q = AW d 138 113 [x0, x1, x2, x3, x4, x5] (va_rf (ρ a 0) :: st) σ ρ g τ Q := aw_gr m138 d138_110 rfl rfl rfl ht
theorem d138_113 : decode cX11_paper 113 = .ok (.getfield 352, 3) := by decide +kernel
theorem s138_113 {d : Nat} {st : List Value} {σ : am_I} {ρ : am_R} {g : am_J} {τ : am_T} {Q : am_Q} {x0 x1 x2 x3 x4 x5 : Value} {a : Nat} (ht : τ.1 a = 3) : AW d 138 113 [x0, x1, x2, x3, x4, x5] (.ref a :: st) σ ρ g τ Q = AW d 138 116 [x0, x1, x2, x3, x4, x5] (va_rf (ρ a 13) :: st) σ ρ g τ Q := aw_gr m138 d138_113 rfl rfl rfl ht
theorem d138_116 : decode cX11_paper 116 = .ok (.iload 5, 2) := by decide +kernel
theorem s138_116 {d : Nat} {st : List Value} {σ : am_I} {ρ : am_R} {g : am_J} {τ : am_T} {Q : am_Q} {x0 x1 x2 x3 x4 : Value} {v : Int32} : AW d 138 116 [x0, x1, x2, x3, x4, .int v] (st) σ ρ g τ Q = AW d 138 118 [x0, x1, x2, x3, x4, .int v] (.int v :: st) σ ρ g τ Q := aw_lc m138 d138_116 rfl rfl rfl
theorem d138_118 : decode cX11_paper 118 = .ok (.iconst 3, 1) := by decide +kernel
theorem s138_118 {d : Nat} {st : List Value} {σ : am_I} {ρ : am_R} {g : am_J} {τ : am_T} {Q : am_Q} {x0 x1 x2 x3 x4 x5 : Value} : AW d 138 118 [x0, x1, x2, x3, x4, x5] (st) σ ρ g τ Q = AW d 138 119 [x0, x1, x2, x3, x4, x5] (.int 3 :: st) σ ρ g τ Q := aw_lc m138 d138_118 rfl rfl rfl
theorem d138_119 : decode cX11_paper 119 = .ok (.iload_n 3, 1) := by decide +kernel
theorem s138_119 {d : Nat} {st : List Value} {σ : am_I} {ρ : am_R} {g : am_J} {τ : am_T} {Q : am_Q} {x0 x1 x2 x4 x5 : Value} {v : Int32} : AW d 138 119 [x0, x1, x2, .int v, x4, x5] (st) σ ρ g τ Q = AW d 138 120 [x0, x1, x2, .int v, x4, x5] (.int v :: st) σ ρ g τ Q := aw_lc m138 d138_119 rfl rfl rfl
theorem d138_120 : decode cX11_paper 120 = .ok (.bipush 10, 2) := by decide +kernel
theorem s138_120 {d : Nat} {st : List Value} {σ : am_I} {ρ : am_R} {g : am_J} {τ : am_T} {Q : am_Q} {x0 x1 x2 x3 x4 x5 : Value} : AW d 138 120 [x0, x1, x2, x3, x4, x5] (st) σ ρ g τ Q = AW d 138 122 [x0, x1, x2, x3, x4, x5] (.int 10 :: st) σ ρ g τ Q := aw_lc m138 d138_120 rfl rfl rfl
theorem d138_122 : decode cX11_paper 122 = .ok (.irem, 1) := by decide +kernel
theorem s138_122 {d : Nat} {st : List Value} {σ : am_I} {ρ : am_R} {g : am_J} {τ : am_T} {Q : am_Q} {x0 x1 x2 x3 x4 x5 : Value} {v w : Int32} (h0 : ¬ w = 0) : AW d 138 122 [x0, x1, x2, x3, x4, x5] (.int w :: .int v :: st) σ ρ g τ Q = AW d 138 123 [x0, x1, x2, x3, x4, x5] (.int (v - v / w * w) :: st) σ ρ g τ Q := aw_rem m138 d138_122 h0 rfl
theorem d138_123 : decode cX11_paper 123 = .ok (.invokevirtual 332, 3) := by decide +kernel
theorem s138_123 {d : Nat} {st : List Value} {σ : am_I} {ρ : am_R} {g : am_J} {τ : am_T} {Q : am_Q} {x0 x1 x2 x3 x4 x5 : Value} {p0 : Nat} {p1 : Int32} {p2 : Int32} {p3 : Int32} (ht : τ.1 p0 = 4) (hs : st.length ≤ 4) : AW (d + 1) 138 123 [x0, x1, x2, x3, x4, x5] (.int p3 :: .int p2 :: .int p1 :: .ref p0 :: st) σ ρ g τ Q = AW d 47 0 [.ref p0, .int p1, .int p2, .int p3] [] σ ρ g τ (fun r9 σ ρ g τ => AW (d + 1) 138 126 [x0, x1, x2, x3, x4, x5] (r9.toList ++ st) σ ρ g τ Q) := aw_cv m138 d138_123 rfl m47 rfl rfl (by decide) en47 ok47 rfl ht hs
theorem d138_126 : decode cX11_paper 126 = .ok (.aload_n 0, 1) := by decide +kernel
theorem s138_126 {d : Nat} {st : List Value} {σ : am_I} {ρ : am_R} {g : am_J} {τ : am_T} {Q : am_Q} {x1 x2 x3 x4 x5 : Value} {v : Nat} : AW d 138 126 [.ref v, x1, x2, x3, x4, x5] (st) σ ρ g τ Q = AW d 138 127 [.ref v, x1, x2, x3, x4, x5] (.ref v :: st) σ ρ g τ Q := aw_lc m138 d138_126 rfl rfl rfl
theorem d138_127 : decode cX11_paper 127 = .ok (.getfield 10, 3) := by decide +kernel
theorem s138_127 {d : Nat} {st : List Value} {σ : am_I} {ρ : am_R} {g : am_J} {τ : am_T} {Q : am_Q} {x0 x1 x2 x3 x4 x5 : Value} {a : Nat} (ht : τ.1 a = 11) : AW d 138 127 [x0, x1, x2, x3, x4, x5] (.ref a :: st) σ ρ g τ Q = AW d 138 130 [x0, x1, x2, x3, x4, x5] (va_rf (ρ a 0) :: st) σ ρ g τ Q := aw_gr m138 d138_127 rfl rfl rfl ht
theorem d138_130 : decode cX11_paper 130 = .ok (.getfield 352, 3) := by decide +kernel
theorem s138_130 {d : Nat} {st : List Value} {σ : am_I} {ρ : am_R} {g : am_J} {τ : am_T} {Q : am_Q} {x0 x1 x2 x3 x4 x5 : Value} {a : Nat} (ht : τ.1 a = 3) : AW d 138 130 [x0, x1, x2, x3, x4, x5] (.ref a :: st) σ ρ g τ Q = AW d 138 133 [x0, x1, x2, x3, x4, x5] (va_rf (ρ a 13) :: st) σ ρ g τ Q := aw_gr m138 d138_130 rfl rfl rfl ht
theorem d138_133 : decode cX11_paper 133 = .ok (.iload 5, 2) := by decide +kernel
theorem s138_133 {d : Nat} {st : List Value} {σ : am_I} {ρ : am_R} {g : am_J} {τ : am_T} {Q : am_Q} {x0 x1 x2 x3 x4 : Value} {v : Int32} : AW d 138 133 [x0, x1, x2, x3, x4, .int v] (st) σ ρ g τ Q = AW d 138 135 [x0, x1, x2, x3, x4, .int v] (.int v :: st) σ ρ g τ Q := aw_lc m138 d138_133 rfl rfl rfl
theorem d138_135 : decode cX11_paper 135 = .ok (.iconst 4, 1) := by decide +kernel
theorem s138_135 {d : Nat} {st : List Value} {σ : am_I} {ρ : am_R} {g : am_J} {τ : am_T} {Q : am_Q} {x0 x1 x2 x3 x4 x5 : Value} : AW d 138 135 [x0, x1, x2, x3, x4, x5] (st) σ ρ g τ Q = AW d 138 136 [x0, x1, x2, x3, x4, x5] (.int 4 :: st) σ ρ g τ Q := aw_lc m138 d138_135 rfl rfl rfl
theorem d138_136 : decode cX11_paper 136 = .ok (.iload 4, 2) := by decide +kernel
theorem s138_136 {d : Nat} {st : List Value} {σ : am_I} {ρ : am_R} {g : am_J} {τ : am_T} {Q : am_Q} {x0 x1 x2 x3 x5 : Value} {v : Int32} : AW d 138 136 [x0, x1, x2, x3, .int v, x5] (st) σ ρ g τ Q = AW d 138 138 [x0, x1, x2, x3, .int v, x5] (.int v :: st) σ ρ g τ Q := aw_lc m138 d138_136 rfl rfl rfl
theorem d138_138 : decode cX11_paper 138 = .ok (.invokevirtual 332, 3) := by decide +kernel
theorem s138_138 {d : Nat} {st : List Value} {σ : am_I} {ρ : am_R} {g : am_J} {τ : am_T} {Q : am_Q} {x0 x1 x2 x3 x4 x5 : Value} {p0 : Nat} {p1 : Int32} {p2 : Int32} {p3 : Int32} (ht : τ.1 p0 = 4) (hs : st.length ≤ 4) : AW (d + 1) 138 138 [x0, x1, x2, x3, x4, x5] (.int p3 :: .int p2 :: .int p1 :: .ref p0 :: st) σ ρ g τ Q = AW d 47 0 [.ref p0, .int p1, .int p2, .int p3] [] σ ρ g τ (fun r9 σ ρ g τ => AW (d + 1) 138 141 [x0, x1, x2, x3, x4, x5] (r9.toList ++ st) σ ρ g τ Q) := aw_cv m138 d138_138 rfl m47 rfl rfl (by decide) en47 ok47 rfl ht hs
theorem d138_141 : decode cX11_paper 141 = .ok (.iload 5, 2) := by decide +kernel
theorem s138_141 {d : Nat} {st : List Value} {σ : am_I} {ρ : am_R} {g : am_J} {τ : am_T} {Q : am_Q} {x0 x1 x2 x3 x4 : Value} {v : Int32} : AW d 138 141 [x0, x1, x2, x3, x4, .int v] (st) σ ρ g τ Q = AW d 138 143 [x0, x1, x2, x3, x4, .int v] (.int v :: st) σ ρ g τ Q := aw_lc m138 d138_141 rfl rfl rfl
theorem d138_143 : decode cX11_paper 143 = .ok (.ireturn, 1) := by decide +kernel
theorem s138_143 {d : Nat} {σ : am_I} {ρ : am_R} {g : am_J} {τ : am_T} {Q : am_Q} {x0 x1 x2 x3 x4 x5 : Value} {v : Int32} : AW d 138 143 [x0, x1, x2, x3, x4, x5] ([.int v]) σ ρ g τ Q = Q (some (.int v)) σ ρ g τ := aw_ri m138 d138_143 rfl
theorem d139_0 : decode cX11_bills 0 = .ok (.iload_n 1, 1) := by decide +kernel
theorem s139_0 {d : Nat} {st : List Value} {σ : am_I} {ρ : am_R} {g : am_J} {τ : am_T} {Q : am_Q} {x0 : Value} {v : Int32} : AW d 139 0 [x0, .int v] (st) σ ρ g τ Q = AW d 139 1 [x0, .int v] (.int v :: st) σ ρ g τ Q := aw_lc m139 d139_0 rfl rfl rfl
theorem d139_1 : decode cX11_bills 1 = .ok (.tableswitch 99 (-3) (-1) #[94, 60, 27], 27) := by decide +kernel
theorem s139_1_0 {d : Nat} {st : List Value} {σ : am_I} {ρ : am_R} {g : am_J} {τ : am_T} {Q : am_Q} {x0 x1 : Value} : AW d 139 1 [x0, x1] (.int (-3) :: st) σ ρ g τ Q = AW d 139 95 [x0, x1] (st) σ ρ g τ Q := aw_lc m139 d139_1 rfl rfl rfl
theorem s139_1_1 {d : Nat} {st : List Value} {σ : am_I} {ρ : am_R} {g : am_J} {τ : am_T} {Q : am_Q} {x0 x1 : Value} : AW d 139 1 [x0, x1] (.int (-2) :: st) σ ρ g τ Q = AW d 139 61 [x0, x1] (st) σ ρ g τ Q := aw_lc m139 d139_1 rfl rfl rfl
theorem s139_1_2 {d : Nat} {st : List Value} {σ : am_I} {ρ : am_R} {g : am_J} {τ : am_T} {Q : am_Q} {x0 x1 : Value} : AW d 139 1 [x0, x1] (.int (-1) :: st) σ ρ g τ Q = AW d 139 28 [x0, x1] (st) σ ρ g τ Q := aw_lc m139 d139_1 rfl rfl rfl
theorem s139_1_d {d : Nat} {st : List Value} {σ : am_I} {ρ : am_R} {g : am_J} {τ : am_T} {Q : am_Q} {x0 x1 : Value} {v : Int32} (h : v.toInt < (-3) ∨ (-1) < v.toInt) : AW d 139 1 [x0, x1] (.int v :: st) σ ρ g τ Q = AW d 139 100 [x0, x1] (st) σ ρ g τ Q := aw_lc m139 d139_1 rfl rfl (by simp only [am_lc]; rw [if_pos h]; rfl)
theorem d139_28 : decode cX11_bills 28 = .ok (.aload_n 0, 1) := by decide +kernel
theorem s139_28 {d : Nat} {st : List Value} {σ : am_I} {ρ : am_R} {g : am_J} {τ : am_T} {Q : am_Q} {x1 : Value} {v : Nat} : AW d 139 28 [.ref v, x1] (st) σ ρ g τ Q = AW d 139 29 [.ref v, x1] (.ref v :: st) σ ρ g τ Q := aw_lc m139 d139_28 rfl rfl rfl
theorem d139_29 : decode cX11_bills 29 = .ok (.getfield 40, 3) := by decide +kernel
theorem s139_29 {d : Nat} {st : List Value} {σ : am_I} {ρ : am_R} {g : am_J} {τ : am_T} {Q : am_Q} {x0 x1 : Value} {a : Nat} (ht : τ.1 a = 11) : AW d 139 29 [x0, x1] (.ref a :: st) σ ρ g τ Q = AW d 139 32 [x0, x1] (va_rf (ρ a 5) :: st) σ ρ g τ Q := aw_gr m139 d139_29 rfl rfl rfl ht
theorem d139_32 : decode cX11_bills 32 = .ok (.aload_n 0, 1) := by decide +kernel
theorem s139_32 {d : Nat} {st : List Value} {σ : am_I} {ρ : am_R} {g : am_J} {τ : am_T} {Q : am_Q} {x1 : Value} {v : Nat} : AW d 139 32 [.ref v, x1] (st) σ ρ g τ Q = AW d 139 33 [.ref v, x1] (.ref v :: st) σ ρ g τ Q := aw_lc m139 d139_32 rfl rfl rfl
theorem d139_33 : decode cX11_bills 33 = .ok (.getfield 10, 3) := by decide +kernel
theorem s139_33 {d : Nat} {st : List Value} {σ : am_I} {ρ : am_R} {g : am_J} {τ : am_T} {Q : am_Q} {x0 x1 : Value} {a : Nat} (ht : τ.1 a = 11) : AW d 139 33 [x0, x1] (.ref a :: st) σ ρ g τ Q = AW d 139 36 [x0, x1] (va_rf (ρ a 0) :: st) σ ρ g τ Q := aw_gr m139 d139_33 rfl rfl rfl ht
theorem d139_36 : decode cX11_bills 36 = .ok (.getfield 352, 3) := by decide +kernel
theorem s139_36 {d : Nat} {st : List Value} {σ : am_I} {ρ : am_R} {g : am_J} {τ : am_T} {Q : am_Q} {x0 x1 : Value} {a : Nat} (ht : τ.1 a = 3) : AW d 139 36 [x0, x1] (.ref a :: st) σ ρ g τ Q = AW d 139 39 [x0, x1] (va_rf (ρ a 13) :: st) σ ρ g τ Q := aw_gr m139 d139_36 rfl rfl rfl ht
theorem d139_39 : decode cX11_bills 39 = .ok (.invokevirtual 355, 3) := by decide +kernel
theorem s139_39 {d : Nat} {st : List Value} {σ : am_I} {ρ : am_R} {g : am_J} {τ : am_T} {Q : am_Q} {x0 x1 : Value} {p0 : Nat} {p1 : Nat} (ht : τ.1 p0 = 6) (hs : st.length ≤ 4) : AW (d + 1) 139 39 [x0, x1] (.ref p1 :: .ref p0 :: st) σ ρ g τ Q = AW d 57 0 [.ref p0, .ref p1, am_jk] [] σ ρ g τ (fun r9 σ ρ g τ => AW (d + 1) 139 42 [x0, x1] (r9.toList ++ st) σ ρ g τ Q) := aw_cv m139 d139_39 rfl m57 rfl rfl (by decide) en57 ok57 rfl ht hs
theorem d139_42 : decode cX11_bills 42 = .ok (.aload_n 0, 1) := by decide +kernel
theorem s139_42 {d : Nat} {st : List Value} {σ : am_I} {ρ : am_R} {g : am_J} {τ : am_T} {Q : am_Q} {x1 : Value} {v : Nat} : AW d 139 42 [.ref v, x1] (st) σ ρ g τ Q = AW d 139 43 [.ref v, x1] (.ref v :: st) σ ρ g τ Q := aw_lc m139 d139_42 rfl rfl rfl
theorem d139_43 : decode cX11_bills 43 = .ok (.getfield 10, 3) := by decide +kernel
theorem s139_43 {d : Nat} {st : List Value} {σ : am_I} {ρ : am_R} {g : am_J} {τ : am_T} {Q : am_Q} {x0 x1 : Value} {a : Nat} (ht : τ.1 a = 11) : AW d 139 43 [x0, x1] (.ref a :: st) σ ρ g τ Q = AW d 139 46 [x0, x1] (va_rf (ρ a 0) :: st) σ ρ g τ Q := aw_gr m139 d139_43 rfl rfl rfl ht
theorem d139_46 : decode cX11_bills 46 = .ok (.getfield 352, 3) := by decide +kernel
theorem s139_46 {d : Nat} {st : List Value} {σ : am_I} {ρ : am_R} {g : am_J} {τ : am_T} {Q : am_Q} {x0 x1 : Value} {a : Nat} (ht : τ.1 a = 3) : AW d 139 46 [x0, x1] (.ref a :: st) σ ρ g τ Q = AW d 139 49 [x0, x1] (va_rf (ρ a 13) :: st) σ ρ g τ Q := aw_gr m139 d139_46 rfl rfl rfl ht
theorem d139_49 : decode cX11_bills 49 = .ok (.getfield 359, 3) := by decide +kernel
theorem s139_49 {d : Nat} {st : List Value} {σ : am_I} {ρ : am_R} {g : am_J} {τ : am_T} {Q : am_Q} {x0 x1 : Value} {a : Nat} (ht : τ.1 a = 4) : AW d 139 49 [x0, x1] (.ref a :: st) σ ρ g τ Q = AW d 139 52 [x0, x1] (.int (σ a 3) :: st) σ ρ g τ Q := aw_gi m139 d139_49 rfl rfl rfl ht
theorem d139_52 : decode cX11_bills 52 = .ok (.aload_n 0, 1) := by decide +kernel
theorem s139_52 {d : Nat} {st : List Value} {σ : am_I} {ρ : am_R} {g : am_J} {τ : am_T} {Q : am_Q} {x1 : Value} {v : Nat} : AW d 139 52 [.ref v, x1] (st) σ ρ g τ Q = AW d 139 53 [.ref v, x1] (.ref v :: st) σ ρ g τ Q := aw_lc m139 d139_52 rfl rfl rfl
theorem d139_53 : decode cX11_bills 53 = .ok (.getfield 40, 3) := by decide +kernel
theorem s139_53 {d : Nat} {st : List Value} {σ : am_I} {ρ : am_R} {g : am_J} {τ : am_T} {Q : am_Q} {x0 x1 : Value} {a : Nat} (ht : τ.1 a = 11) : AW d 139 53 [x0, x1] (.ref a :: st) σ ρ g τ Q = AW d 139 56 [x0, x1] (va_rf (ρ a 5) :: st) σ ρ g τ Q := aw_gr m139 d139_53 rfl rfl rfl ht
theorem d139_56 : decode cX11_bills 56 = .ok (.getfield 362, 3) := by decide +kernel
theorem s139_56 {d : Nat} {st : List Value} {σ : am_I} {ρ : am_R} {g : am_J} {τ : am_T} {Q : am_Q} {x0 x1 : Value} {a : Nat} (ht : τ.1 a = 6) : AW d 139 56 [x0, x1] (.ref a :: st) σ ρ g τ Q = AW d 139 59 [x0, x1] (.int (σ a 2) :: st) σ ρ g τ Q := aw_gi m139 d139_56 rfl rfl rfl ht
theorem d139_59 : decode cX11_bills 59 = .ok (.isub, 1) := by decide +kernel
theorem s139_59 {d : Nat} {st : List Value} {σ : am_I} {ρ : am_R} {g : am_J} {τ : am_T} {Q : am_Q} {x0 x1 : Value} {v w : Int32} : AW d 139 59 [x0, x1] (.int w :: .int v :: st) σ ρ g τ Q = AW d 139 60 [x0, x1] (.int (v - w) :: st) σ ρ g τ Q := aw_lc m139 d139_59 rfl rfl rfl
theorem d139_60 : decode cX11_bills 60 = .ok (.ireturn, 1) := by decide +kernel
theorem s139_60 {d : Nat} {σ : am_I} {ρ : am_R} {g : am_J} {τ : am_T} {Q : am_Q} {x0 x1 : Value} {v : Int32} : AW d 139 60 [x0, x1] ([.int v]) σ ρ g τ Q = Q (some (.int v)) σ ρ g τ := aw_ri m139 d139_60 rfl
theorem d139_61 : decode cX11_bills 61 = .ok (.aload_n 0, 1) := by decide +kernel
theorem s139_61 {d : Nat} {st : List Value} {σ : am_I} {ρ : am_R} {g : am_J} {τ : am_T} {Q : am_Q} {x1 : Value} {v : Nat} : AW d 139 61 [.ref v, x1] (st) σ ρ g τ Q = AW d 139 62 [.ref v, x1] (.ref v :: st) σ ρ g τ Q := aw_lc m139 d139_61 rfl rfl rfl
theorem d139_62 : decode cX11_bills 62 = .ok (.getfield 40, 3) := by decide +kernel
theorem s139_62 {d : Nat} {st : List Value} {σ : am_I} {ρ : am_R} {g : am_J} {τ : am_T} {Q : am_Q} {x0 x1 : Value} {a : Nat} (ht : τ.1 a = 11) : AW d 139 62 [x0, x1] (.ref a :: st) σ ρ g τ Q = AW d 139 65 [x0, x1] (va_rf (ρ a 5) :: st) σ ρ g τ Q := aw_gr m139 d139_62 rfl rfl rfl ht
theorem d139_65 : decode cX11_bills 65 = .ok (.aload_n 0, 1) := by decide +kernel
theorem s139_65 {d : Nat} {st : List Value} {σ : am_I} {ρ : am_R} {g : am_J} {τ : am_T} {Q : am_Q} {x1 : Value} {v : Nat} : AW d 139 65 [.ref v, x1] (st) σ ρ g τ Q = AW d 139 66 [.ref v, x1] (.ref v :: st) σ ρ g τ Q := aw_lc m139 d139_65 rfl rfl rfl
theorem d139_66 : decode cX11_bills 66 = .ok (.getfield 10, 3) := by decide +kernel
theorem s139_66 {d : Nat} {st : List Value} {σ : am_I} {ρ : am_R} {g : am_J} {τ : am_T} {Q : am_Q} {x0 x1 : Value} {a : Nat} (ht : τ.1 a = 11) : AW d 139 66 [x0, x1] (.ref a :: st) σ ρ g τ Q = AW d 139 69 [x0, x1] (va_rf (ρ a 0) :: st) σ ρ g τ Q := aw_gr m139 d139_66 rfl rfl rfl ht
theorem d139_69 : decode cX11_bills 69 = .ok (.getfield 352, 3) := by decide +kernel
theorem s139_69 {d : Nat} {st : List Value} {σ : am_I} {ρ : am_R} {g : am_J} {τ : am_T} {Q : am_Q} {x0 x1 : Value} {a : Nat} (ht : τ.1 a = 3) : AW d 139 69 [x0, x1] (.ref a :: st) σ ρ g τ Q = AW d 139 72 [x0, x1] (va_rf (ρ a 13) :: st) σ ρ g τ Q := aw_gr m139 d139_69 rfl rfl rfl ht
theorem d139_72 : decode cX11_bills 72 = .ok (.invokevirtual 355, 3) := by decide +kernel
theorem s139_72 {d : Nat} {st : List Value} {σ : am_I} {ρ : am_R} {g : am_J} {τ : am_T} {Q : am_Q} {x0 x1 : Value} {p0 : Nat} {p1 : Nat} (ht : τ.1 p0 = 6) (hs : st.length ≤ 4) : AW (d + 1) 139 72 [x0, x1] (.ref p1 :: .ref p0 :: st) σ ρ g τ Q = AW d 57 0 [.ref p0, .ref p1, am_jk] [] σ ρ g τ (fun r9 σ ρ g τ => AW (d + 1) 139 75 [x0, x1] (r9.toList ++ st) σ ρ g τ Q) := aw_cv m139 d139_72 rfl m57 rfl rfl (by decide) en57 ok57 rfl ht hs
theorem d139_75 : decode cX11_bills 75 = .ok (.aload_n 0, 1) := by decide +kernel
theorem s139_75 {d : Nat} {st : List Value} {σ : am_I} {ρ : am_R} {g : am_J} {τ : am_T} {Q : am_Q} {x1 : Value} {v : Nat} : AW d 139 75 [.ref v, x1] (st) σ ρ g τ Q = AW d 139 76 [.ref v, x1] (.ref v :: st) σ ρ g τ Q := aw_lc m139 d139_75 rfl rfl rfl
theorem d139_76 : decode cX11_bills 76 = .ok (.getfield 10, 3) := by decide +kernel
theorem s139_76 {d : Nat} {st : List Value} {σ : am_I} {ρ : am_R} {g : am_J} {τ : am_T} {Q : am_Q} {x0 x1 : Value} {a : Nat} (ht : τ.1 a = 11) : AW d 139 76 [x0, x1] (.ref a :: st) σ ρ g τ Q = AW d 139 79 [x0, x1] (va_rf (ρ a 0) :: st) σ ρ g τ Q := aw_gr m139 d139_76 rfl rfl rfl ht
theorem d139_79 : decode cX11_bills 79 = .ok (.getfield 352, 3) := by decide +kernel
theorem s139_79 {d : Nat} {st : List Value} {σ : am_I} {ρ : am_R} {g : am_J} {τ : am_T} {Q : am_Q} {x0 x1 : Value} {a : Nat} (ht : τ.1 a = 3) : AW d 139 79 [x0, x1] (.ref a :: st) σ ρ g τ Q = AW d 139 82 [x0, x1] (va_rf (ρ a 13) :: st) σ ρ g τ Q := aw_gr m139 d139_79 rfl rfl rfl ht
theorem d139_82 : decode cX11_bills 82 = .ok (.iconst 1, 1) := by decide +kernel
theorem s139_82 {d : Nat} {st : List Value} {σ : am_I} {ρ : am_R} {g : am_J} {τ : am_T} {Q : am_Q} {x0 x1 : Value} : AW d 139 82 [x0, x1] (st) σ ρ g τ Q = AW d 139 83 [x0, x1] (.int 1 :: st) σ ρ g τ Q := aw_lc m139 d139_82 rfl rfl rfl
theorem d139_83 : decode cX11_bills 83 = .ok (.invokevirtual 365, 3) := by decide +kernel
theorem s139_83 {d : Nat} {st : List Value} {σ : am_I} {ρ : am_R} {g : am_J} {τ : am_T} {Q : am_Q} {x0 x1 : Value} {p0 : Nat} {p1 : Int32} (ht : τ.1 p0 = 4) (hs : st.length ≤ 4) : AW (d + 1) 139 83 [x0, x1] (.int p1 :: .ref p0 :: st) σ ρ g τ Q = AW d 48 0 [.ref p0, .int p1, am_jk, am_jk] [] σ ρ g τ (fun r9 σ ρ g τ => AW (d + 1) 139 86 [x0, x1] (r9.toList ++ st) σ ρ g τ Q) := aw_cv m139 d139_83 rfl m48 rfl rfl (by decide) en48 ok48 rfl ht hs
theorem d139_86 : decode cX11_bills 86 = .ok (.aload_n 0, 1) := by decide +kernel
theorem s139_86 {d : Nat} {st : List Value} {σ : am_I} {ρ : am_R} {g : am_J} {τ : am_T} {Q : am_Q} {x1 : Value} {v : Nat} : AW d 139 86 [.ref v, x1] (st) σ ρ g τ Q = AW d 139 87 [.ref v, x1] (.ref v :: st) σ ρ g τ Q := aw_lc m139 d139_86 rfl rfl rfl
theorem d139_87 : decode cX11_bills 87 = .ok (.getfield 40, 3) := by decide +kernel
theorem s139_87 {d : Nat} {st : List Value} {σ : am_I} {ρ : am_R} {g : am_J} {τ : am_T} {Q : am_Q} {x0 x1 : Value} {a : Nat} (ht : τ.1 a = 11) : AW d 139 87 [x0, x1] (.ref a :: st) σ ρ g τ Q = AW d 139 90 [x0, x1] (va_rf (ρ a 5) :: st) σ ρ g τ Q := aw_gr m139 d139_87 rfl rfl rfl ht
theorem d139_90 : decode cX11_bills 90 = .ok (.getfield 368, 3) := by decide +kernel
theorem s139_90 {d : Nat} {st : List Value} {σ : am_I} {ρ : am_R} {g : am_J} {τ : am_T} {Q : am_Q} {x0 x1 : Value} {a : Nat} (ht : τ.1 a = 6) : AW d 139 90 [x0, x1] (.ref a :: st) σ ρ g τ Q = AW d 139 93 [x0, x1] (.int (σ a 3) :: st) σ ρ g τ Q := aw_gi m139 d139_90 rfl rfl rfl ht
theorem d139_93 : decode cX11_bills 93 = .ok (.isub, 1) := by decide +kernel
theorem s139_93 {d : Nat} {st : List Value} {σ : am_I} {ρ : am_R} {g : am_J} {τ : am_T} {Q : am_Q} {x0 x1 : Value} {v w : Int32} : AW d 139 93 [x0, x1] (.int w :: .int v :: st) σ ρ g τ Q = AW d 139 94 [x0, x1] (.int (v - w) :: st) σ ρ g τ Q := aw_lc m139 d139_93 rfl rfl rfl
theorem d139_94 : decode cX11_bills 94 = .ok (.ireturn, 1) := by decide +kernel
theorem s139_94 {d : Nat} {σ : am_I} {ρ : am_R} {g : am_J} {τ : am_T} {Q : am_Q} {x0 x1 : Value} {v : Int32} : AW d 139 94 [x0, x1] ([.int v]) σ ρ g τ Q = Q (some (.int v)) σ ρ g τ := aw_ri m139 d139_94 rfl
theorem d139_95 : decode cX11_bills 95 = .ok (.aload_n 0, 1) := by decide +kernel
theorem s139_95 {d : Nat} {st : List Value} {σ : am_I} {ρ : am_R} {g : am_J} {τ : am_T} {Q : am_Q} {x1 : Value} {v : Nat} : AW d 139 95 [.ref v, x1] (st) σ ρ g τ Q = AW d 139 96 [.ref v, x1] (.ref v :: st) σ ρ g τ Q := aw_lc m139 d139_95 rfl rfl rfl
theorem d139_96 : decode cX11_bills 96 = .ok (.invokevirtual 371, 3) := by decide +kernel
theorem s139_96 {d : Nat} {st : List Value} {σ : am_I} {ρ : am_R} {g : am_J} {τ : am_T} {Q : am_Q} {x0 x1 : Value} {p0 : Nat} (ht : τ.1 p0 = 11) (hs : st.length ≤ 4) : AW (d + 1) 139 96 [x0, x1] (.ref p0 :: st) σ ρ g τ Q = AW d 140 0 [.ref p0, am_jk, am_jk] [] σ ρ g τ (fun r9 σ ρ g τ => AW (d + 1) 139 99 [x0, x1] (r9.toList ++ st) σ ρ g τ Q) := aw_cv m139 d139_96 rfl m140 rfl rfl (by decide) en140 ok140 rfl ht hs
theorem d139_99 : decode cX11_bills 99 = .ok (.ireturn, 1) := by decide +kernel
theorem s139_99 {d : Nat} {σ : am_I} {ρ : am_R} {g : am_J} {τ : am_T} {Q : am_Q} {x0 x1 : Value} {v : Int32} : AW d 139 99 [x0, x1] ([.int v]) σ ρ g τ Q = Q (some (.int v)) σ ρ g τ := aw_ri m139 d139_99 rfl
theorem d139_100 : decode cX11_bills 100 = .ok (.aload_n 0, 1) := by decide +kernel
theorem s139_100 {d : Nat} {st : List Value} {σ : am_I} {ρ : am_R} {g : am_J} {τ : am_T} {Q : am_Q} {x1 : Value} {v : Nat} : AW d 139 100 [.ref v, x1] (st) σ ρ g τ Q = AW d 139 101 [.ref v, x1] (.ref v :: st) σ ρ g τ Q := aw_lc m139 d139_100 rfl rfl rfl
theorem d139_101 : decode cX11_bills 101 = .ok (.getfield 10, 3) := by decide +kernel
theorem s139_101 {d : Nat} {st : List Value} {σ : am_I} {ρ : am_R} {g : am_J} {τ : am_T} {Q : am_Q} {x0 x1 : Value} {a : Nat} (ht : τ.1 a = 11) : AW d 139 101 [x0, x1] (.ref a :: st) σ ρ g τ Q = AW d 139 104 [x0, x1] (va_rf (ρ a 0) :: st) σ ρ g τ Q := aw_gr m139 d139_101 rfl rfl rfl ht
theorem d139_104 : decode cX11_bills 104 = .ok (.getfield 352, 3) := by decide +kernel
theorem s139_104 {d : Nat} {st : List Value} {σ : am_I} {ρ : am_R} {g : am_J} {τ : am_T} {Q : am_Q} {x0 x1 : Value} {a : Nat} (ht : τ.1 a = 3) : AW d 139 104 [x0, x1] (.ref a :: st) σ ρ g τ Q = AW d 139 107 [x0, x1] (va_rf (ρ a 13) :: st) σ ρ g τ Q := aw_gr m139 d139_104 rfl rfl rfl ht
theorem d139_107 : decode cX11_bills 107 = .ok (.iload_n 1, 1) := by decide +kernel
theorem s139_107 {d : Nat} {st : List Value} {σ : am_I} {ρ : am_R} {g : am_J} {τ : am_T} {Q : am_Q} {x0 : Value} {v : Int32} : AW d 139 107 [x0, .int v] (st) σ ρ g τ Q = AW d 139 108 [x0, .int v] (.int v :: st) σ ρ g τ Q := aw_lc m139 d139_107 rfl rfl rfl
theorem d139_108 : decode cX11_bills 108 = .ok (.invokevirtual 336, 3) := by decide +kernel
theorem s139_108 {d : Nat} {st : List Value} {σ : am_I} {ρ : am_R} {g : am_J} {τ : am_T} {Q : am_Q} {x0 x1 : Value} {p0 : Nat} {p1 : Int32} (ht : τ.1 p0 = 4) (hs : st.length ≤ 4) : AW (d + 1) 139 108 [x0, x1] (.int p1 :: .ref p0 :: st) σ ρ g τ Q = AW d 44 0 [.ref p0, .int p1] [] σ ρ g τ (fun r9 σ ρ g τ => AW (d + 1) 139 111 [x0, x1] (r9.toList ++ st) σ ρ g τ Q) := aw_cv m139 d139_108 rfl m44 rfl rfl (by decide) en44 ok44 rfl ht hs
theorem d139_111 : decode cX11_bills 111 = .ok (.ifCond .eq 17, 3) := by decide +kernel
theorem s139_111 {d : Nat} {st : List Value} {σ : am_I} {ρ : am_R} {g : am_J} {τ : am_T} {Q : am_Q} {x0 x1 : Value} {v : Int32} : AW d 139 111 [x0, x1] (.int v :: st) σ ρ g τ Q = if v = 0 then AW d 139 128 [x0, x1] (st) σ ρ g τ Q else AW d 139 114 [x0, x1] (st) σ ρ g τ Q := aw_br m139 d139_111 rfl rfl rfl
theorem d139_114 : decode cX11_bills 114 = .ok (.aload_n 0, 1) := by decide +kernel
theorem s139_114 {d : Nat} {st : List Value} {σ : am_I} {ρ : am_R} {g : am_J} {τ : am_T} {Q : am_Q} {x1 : Value} {v : Nat} : AW d 139 114 [.ref v, x1] (st) σ ρ g τ Q = AW d 139 115 [.ref v, x1] (.ref v :: st) σ ρ g τ Q := aw_lc m139 d139_114 rfl rfl rfl
theorem d139_115 : decode cX11_bills 115 = .ok (.getfield 10, 3) := by decide +kernel
theorem s139_115 {d : Nat} {st : List Value} {σ : am_I} {ρ : am_R} {g : am_J} {τ : am_T} {Q : am_Q} {x0 x1 : Value} {a : Nat} (ht : τ.1 a = 11) : AW d 139 115 [x0, x1] (.ref a :: st) σ ρ g τ Q = AW d 139 118 [x0, x1] (va_rf (ρ a 0) :: st) σ ρ g τ Q := aw_gr m139 d139_115 rfl rfl rfl ht
theorem d139_118 : decode cX11_bills 118 = .ok (.getfield 352, 3) := by decide +kernel
theorem s139_118 {d : Nat} {st : List Value} {σ : am_I} {ρ : am_R} {g : am_J} {τ : am_T} {Q : am_Q} {x0 x1 : Value} {a : Nat} (ht : τ.1 a = 3) : AW d 139 118 [x0, x1] (.ref a :: st) σ ρ g τ Q = AW d 139 121 [x0, x1] (va_rf (ρ a 13) :: st) σ ρ g τ Q := aw_gr m139 d139_118 rfl rfl rfl ht
theorem d139_121 : decode cX11_bills 121 = .ok (.iload_n 1, 1) := by decide +kernel
theorem s139_121 {d : Nat} {st : List Value} {σ : am_I} {ρ : am_R} {g : am_J} {τ : am_T} {Q : am_Q} {x0 : Value} {v : Int32} : AW d 139 121 [x0, .int v] (st) σ ρ g τ Q = AW d 139 122 [x0, .int v] (.int v :: st) σ ρ g τ Q := aw_lc m139 d139_121 rfl rfl rfl
theorem d139_122 : decode cX11_bills 122 = .ok (.invokestatic 374, 3) := by decide +kernel
theorem s139_122 {d : Nat} {st : List Value} {σ : am_I} {ρ : am_R} {g : am_J} {τ : am_T} {Q : am_Q} {x0 x1 : Value} {p0 : Nat} {p1 : Int32} (hs : st.length ≤ 4) : AW (d + 1) 139 122 [x0, x1] (.int p1 :: .ref p0 :: st) σ ρ g τ Q = AW d 56 0 [.ref p0, .int p1, am_jk, am_jk] [] σ ρ g τ (fun r9 σ ρ g τ => AW (d + 1) 139 125 [x0, x1] (r9.toList ++ st) σ ρ g τ Q) := aw_cs m139 d139_122 rfl (by simp only [List.length_cons]; omega) rfl rfl en56 ok56 rfl hs
theorem d139_125 : decode cX11_bills 125 = .ok (.goto 4, 3) := by decide +kernel
theorem s139_125 {d : Nat} {st : List Value} {σ : am_I} {ρ : am_R} {g : am_J} {τ : am_T} {Q : am_Q} {x0 x1 : Value} : AW d 139 125 [x0, x1] (st) σ ρ g τ Q = AW d 139 129 [x0, x1] (st) σ ρ g τ Q := aw_lc m139 d139_125 rfl rfl rfl
theorem d139_128 : decode cX11_bills 128 = .ok (.iconst (-1), 1) := by decide +kernel
theorem s139_128 {d : Nat} {st : List Value} {σ : am_I} {ρ : am_R} {g : am_J} {τ : am_T} {Q : am_Q} {x0 x1 : Value} : AW d 139 128 [x0, x1] (st) σ ρ g τ Q = AW d 139 129 [x0, x1] (.int (-1) :: st) σ ρ g τ Q := aw_lc m139 d139_128 rfl rfl rfl
theorem d139_129 : decode cX11_bills 129 = .ok (.ireturn, 1) := by decide +kernel
theorem s139_129 {d : Nat} {σ : am_I} {ρ : am_R} {g : am_J} {τ : am_T} {Q : am_Q} {x0 x1 : Value} {v : Int32} : AW d 139 129 [x0, x1] ([.int v]) σ ρ g τ Q = Q (some (.int v)) σ ρ g τ := aw_ri m139 d139_129 rfl
theorem d140_0 : decode cX11_singlePapers 0 = .ok (.iconst 0, 1) := by decide +kernel
theorem s140_0 {d : Nat} {st : List Value} {σ : am_I} {ρ : am_R} {g : am_J} {τ : am_T} {Q : am_Q} {x0 x1 x2 : Value} : AW d 140 0 [x0, x1, x2] (st) σ ρ g τ Q = AW d 140 1 [x0, x1, x2] (.int 0 :: st) σ ρ g τ Q := aw_lc m140 d140_0 rfl rfl rfl
theorem d140_1 : decode cX11_singlePapers 1 = .ok (.istore_n 1, 1) := by decide +kernel
theorem s140_1r {d : Nat} {st : List Value} {σ : am_I} {ρ : am_R} {g : am_J} {τ : am_T} {Q : am_Q} {x1 x2 : Value} {v : Int32} {u : Nat} : AW d 140 1 [.ref u, x1, x2] (.int v :: st) σ ρ g τ Q = AW d 140 2 [.ref u, .int v, x2] (st) σ ρ g τ Q := aw_lc m140 d140_1 rfl rfl rfl
theorem d140_2 : decode cX11_singlePapers 2 = .ok (.iconst 0, 1) := by decide +kernel
theorem s140_2 {d : Nat} {st : List Value} {σ : am_I} {ρ : am_R} {g : am_J} {τ : am_T} {Q : am_Q} {x0 x1 x2 : Value} : AW d 140 2 [x0, x1, x2] (st) σ ρ g τ Q = AW d 140 3 [x0, x1, x2] (.int 0 :: st) σ ρ g τ Q := aw_lc m140 d140_2 rfl rfl rfl
theorem d140_3 : decode cX11_singlePapers 3 = .ok (.istore_n 2, 1) := by decide +kernel
theorem s140_3 {d : Nat} {st : List Value} {σ : am_I} {ρ : am_R} {g : am_J} {τ : am_T} {Q : am_Q} {x0 x2 : Value} {v : Int32} {u : Int32} : AW d 140 3 [x0, .int u, x2] (.int v :: st) σ ρ g τ Q = AW d 140 4 [x0, .int u, .int v] (st) σ ρ g τ Q := aw_lc m140 d140_3 rfl rfl rfl
theorem d140_4 : decode cX11_singlePapers 4 = .ok (.iload_n 2, 1) := by decide +kernel
theorem s140_4 {d : Nat} {st : List Value} {σ : am_I} {ρ : am_R} {g : am_J} {τ : am_T} {Q : am_Q} {x0 x1 : Value} {v : Int32} : AW d 140 4 [x0, x1, .int v] (st) σ ρ g τ Q = AW d 140 5 [x0, x1, .int v] (.int v :: st) σ ρ g τ Q := aw_lc m140 d140_4 rfl rfl rfl
theorem d140_5 : decode cX11_singlePapers 5 = .ok (.aload_n 0, 1) := by decide +kernel
theorem s140_5 {d : Nat} {st : List Value} {σ : am_I} {ρ : am_R} {g : am_J} {τ : am_T} {Q : am_Q} {x1 x2 : Value} {v : Nat} : AW d 140 5 [.ref v, x1, x2] (st) σ ρ g τ Q = AW d 140 6 [.ref v, x1, x2] (.ref v :: st) σ ρ g τ Q := aw_lc m140 d140_5 rfl rfl rfl
theorem d140_6 : decode cX11_singlePapers 6 = .ok (.getfield 10, 3) := by decide +kernel
theorem s140_6 {d : Nat} {st : List Value} {σ : am_I} {ρ : am_R} {g : am_J} {τ : am_T} {Q : am_Q} {x0 x1 x2 : Value} {a : Nat} (ht : τ.1 a = 11) : AW d 140 6 [x0, x1, x2] (.ref a :: st) σ ρ g τ Q = AW d 140 9 [x0, x1, x2] (va_rf (ρ a 0) :: st) σ ρ g τ Q := aw_gr m140 d140_6 rfl rfl rfl ht
theorem d140_9 : decode cX11_singlePapers 9 = .ok (.getfield 352, 3) := by decide +kernel
theorem s140_9 {d : Nat} {st : List Value} {σ : am_I} {ρ : am_R} {g : am_J} {τ : am_T} {Q : am_Q} {x0 x1 x2 : Value} {a : Nat} (ht : τ.1 a = 3) : AW d 140 9 [x0, x1, x2] (.ref a :: st) σ ρ g τ Q = AW d 140 12 [x0, x1, x2] (va_rf (ρ a 13) :: st) σ ρ g τ Q := aw_gr m140 d140_9 rfl rfl rfl ht
theorem d140_12 : decode cX11_singlePapers 12 = .ok (.getfield 359, 3) := by decide +kernel
theorem s140_12 {d : Nat} {st : List Value} {σ : am_I} {ρ : am_R} {g : am_J} {τ : am_T} {Q : am_Q} {x0 x1 x2 : Value} {a : Nat} (ht : τ.1 a = 4) : AW d 140 12 [x0, x1, x2] (.ref a :: st) σ ρ g τ Q = AW d 140 15 [x0, x1, x2] (.int (σ a 3) :: st) σ ρ g τ Q := aw_gi m140 d140_12 rfl rfl rfl ht
theorem d140_15 : decode cX11_singlePapers 15 = .ok (.if_icmp .ge 26, 3) := by decide +kernel
theorem s140_15 {d : Nat} {st : List Value} {σ : am_I} {ρ : am_R} {g : am_J} {τ : am_T} {Q : am_Q} {x0 x1 x2 : Value} {v w : Int32} : AW d 140 15 [x0, x1, x2] (.int w :: .int v :: st) σ ρ g τ Q = if w ≤ v then AW d 140 41 [x0, x1, x2] (st) σ ρ g τ Q else AW d 140 18 [x0, x1, x2] (st) σ ρ g τ Q := aw_br m140 d140_15 rfl rfl rfl
theorem d140_18 : decode cX11_singlePapers 18 = .ok (.aload_n 0, 1) := by decide +kernel
theorem s140_18 {d : Nat} {st : List Value} {σ : am_I} {ρ : am_R} {g : am_J} {τ : am_T} {Q : am_Q} {x1 x2 : Value} {v : Nat} : AW d 140 18 [.ref v, x1, x2] (st) σ ρ g τ Q = AW d 140 19 [.ref v, x1, x2] (.ref v :: st) σ ρ g τ Q := aw_lc m140 d140_18 rfl rfl rfl
theorem d140_19 : decode cX11_singlePapers 19 = .ok (.getfield 10, 3) := by decide +kernel
theorem s140_19 {d : Nat} {st : List Value} {σ : am_I} {ρ : am_R} {g : am_J} {τ : am_T} {Q : am_Q} {x0 x1 x2 : Value} {a : Nat} (ht : τ.1 a = 11) : AW d 140 19 [x0, x1, x2] (.ref a :: st) σ ρ g τ Q = AW d 140 22 [x0, x1, x2] (va_rf (ρ a 0) :: st) σ ρ g τ Q := aw_gr m140 d140_19 rfl rfl rfl ht
theorem d140_22 : decode cX11_singlePapers 22 = .ok (.getfield 352, 3) := by decide +kernel
theorem s140_22 {d : Nat} {st : List Value} {σ : am_I} {ρ : am_R} {g : am_J} {τ : am_T} {Q : am_Q} {x0 x1 x2 : Value} {a : Nat} (ht : τ.1 a = 3) : AW d 140 22 [x0, x1, x2] (.ref a :: st) σ ρ g τ Q = AW d 140 25 [x0, x1, x2] (va_rf (ρ a 13) :: st) σ ρ g τ Q := aw_gr m140 d140_22 rfl rfl rfl ht
theorem d140_25 : decode cX11_singlePapers 25 = .ok (.iload_n 2, 1) := by decide +kernel
theorem s140_25 {d : Nat} {st : List Value} {σ : am_I} {ρ : am_R} {g : am_J} {τ : am_T} {Q : am_Q} {x0 x1 : Value} {v : Int32} : AW d 140 25 [x0, x1, .int v] (st) σ ρ g τ Q = AW d 140 26 [x0, x1, .int v] (.int v :: st) σ ρ g τ Q := aw_lc m140 d140_25 rfl rfl rfl
theorem d140_26 : decode cX11_singlePapers 26 = .ok (.invokestatic 374, 3) := by decide +kernel
theorem s140_26 {d : Nat} {st : List Value} {σ : am_I} {ρ : am_R} {g : am_J} {τ : am_T} {Q : am_Q} {x0 x1 x2 : Value} {p0 : Nat} {p1 : Int32} (hs : st.length ≤ 4) : AW (d + 1) 140 26 [x0, x1, x2] (.int p1 :: .ref p0 :: st) σ ρ g τ Q = AW d 56 0 [.ref p0, .int p1, am_jk, am_jk] [] σ ρ g τ (fun r9 σ ρ g τ => AW (d + 1) 140 29 [x0, x1, x2] (r9.toList ++ st) σ ρ g τ Q) := aw_cs m140 d140_26 rfl (by simp only [List.length_cons]; omega) rfl rfl en56 ok56 rfl hs
theorem d140_29 : decode cX11_singlePapers 29 = .ok (.ifCond .ne 6, 3) := by decide +kernel
theorem s140_29 {d : Nat} {st : List Value} {σ : am_I} {ρ : am_R} {g : am_J} {τ : am_T} {Q : am_Q} {x0 x1 x2 : Value} {v : Int32} : AW d 140 29 [x0, x1, x2] (.int v :: st) σ ρ g τ Q = if ¬ v = 0 then AW d 140 35 [x0, x1, x2] (st) σ ρ g τ Q else AW d 140 32 [x0, x1, x2] (st) σ ρ g τ Q := aw_br m140 d140_29 rfl rfl rfl
theorem d140_32 : decode cX11_singlePapers 32 = .ok (.iinc 1 1, 3) := by decide +kernel
theorem s140_32r {d : Nat} {st : List Value} {σ : am_I} {ρ : am_R} {g : am_J} {τ : am_T} {Q : am_Q} {x2 : Value} {v : Int32} {u : Nat} : AW d 140 32 [.ref u, .int v, x2] (st) σ ρ g τ Q = AW d 140 35 [.ref u, .int (v + 1), x2] (st) σ ρ g τ Q := aw_lc m140 d140_32 rfl rfl rfl
theorem d140_35 : decode cX11_singlePapers 35 = .ok (.iinc 2 1, 3) := by decide +kernel
theorem s140_35 {d : Nat} {st : List Value} {σ : am_I} {ρ : am_R} {g : am_J} {τ : am_T} {Q : am_Q} {x0 : Value} {v : Int32} {u : Int32} : AW d 140 35 [x0, .int u, .int v] (st) σ ρ g τ Q = AW d 140 38 [x0, .int u, .int (v + 1)] (st) σ ρ g τ Q := aw_lc m140 d140_35 rfl rfl rfl
theorem d140_38 : decode cX11_singlePapers 38 = .ok (.goto (-34), 3) := by decide +kernel
theorem s140_38 {d : Nat} {st : List Value} {σ : am_I} {ρ : am_R} {g : am_J} {τ : am_T} {Q : am_Q} {x0 x1 x2 : Value} : AW d 140 38 [x0, x1, x2] (st) σ ρ g τ Q = AW d 140 4 [x0, x1, x2] (st) σ ρ g τ Q := aw_lc m140 d140_38 rfl rfl rfl
theorem d140_41 : decode cX11_singlePapers 41 = .ok (.iload_n 1, 1) := by decide +kernel
theorem s140_41 {d : Nat} {st : List Value} {σ : am_I} {ρ : am_R} {g : am_J} {τ : am_T} {Q : am_Q} {x0 x2 : Value} {v : Int32} : AW d 140 41 [x0, .int v, x2] (st) σ ρ g τ Q = AW d 140 42 [x0, .int v, x2] (.int v :: st) σ ρ g τ Q := aw_lc m140 d140_41 rfl rfl rfl
theorem d140_42 : decode cX11_singlePapers 42 = .ok (.ireturn, 1) := by decide +kernel
theorem s140_42 {d : Nat} {σ : am_I} {ρ : am_R} {g : am_J} {τ : am_T} {Q : am_Q} {x0 x1 x2 : Value} {v : Int32} : AW d 140 42 [x0, x1, x2] ([.int v]) σ ρ g τ Q = Q (some (.int v)) σ ρ g τ := aw_ri m140 d140_42 rfl
theorem d141_0 : decode cX11_taking 0 = .ok (.iload_n 1, 1) := by decide +kernel
theorem s141_0 {d : Nat} {st : List Value} {σ : am_I} {ρ : am_R} {g : am_J} {τ : am_T} {Q : am_Q} {x0 x2 x3 : Value} {v : Int32} : AW d 141 0 [x0, .int v, x2, x3] (st) σ ρ g τ Q = AW d 141 1 [x0, .int v, x2, x3] (.int v :: st) σ ρ g τ Q := aw_lc m141 d141_0 rfl rfl rfl
theorem d141_1 : decode cX11_taking 1 = .ok (.invokestatic 126, 3) := by decide +kernel
theorem s141_1 {d : Nat} {st : List Value} {σ : am_I} {ρ : am_R} {g : am_J} {τ : am_T} {Q : am_Q} {x0 x1 x2 x3 : Value} {p0 : Int32} (hs : st.length ≤ 4) : AW (d + 1) 141 1 [x0, x1, x2, x3] (.int p0 :: st) σ ρ g τ Q = AW d 102 0 [.int p0] [] σ ρ g τ (fun r9 σ ρ g τ => AW (d + 1) 141 4 [x0, x1, x2, x3] (r9.toList ++ st) σ ρ g τ Q) := aw_cs m141 d141_1 rfl (by simp only [List.length_cons]; omega) rfl rfl en102 ok102 rfl hs
theorem d141_4 : decode cX11_taking 4 = .ok (.ifCond .eq 10, 3) := by decide +kernel
theorem s141_4 {d : Nat} {st : List Value} {σ : am_I} {ρ : am_R} {g : am_J} {τ : am_T} {Q : am_Q} {x0 x1 x2 x3 : Value} {v : Int32} : AW d 141 4 [x0, x1, x2, x3] (.int v :: st) σ ρ g τ Q = if v = 0 then AW d 141 14 [x0, x1, x2, x3] (st) σ ρ g τ Q else AW d 141 7 [x0, x1, x2, x3] (st) σ ρ g τ Q := aw_br m141 d141_4 rfl rfl rfl
theorem d141_7 : decode cX11_taking 7 = .ok (.iload_n 2, 1) := by decide +kernel
theorem s141_7 {d : Nat} {st : List Value} {σ : am_I} {ρ : am_R} {g : am_J} {τ : am_T} {Q : am_Q} {x0 x1 x3 : Value} {v : Int32} : AW d 141 7 [x0, x1, .int v, x3] (st) σ ρ g τ Q = AW d 141 8 [x0, x1, .int v, x3] (.int v :: st) σ ρ g τ Q := aw_lc m141 d141_7 rfl rfl rfl
theorem d141_8 : decode cX11_taking 8 = .ok (.invokestatic 196, 3) := by decide +kernel
theorem s141_8 {d : Nat} {st : List Value} {σ : am_I} {ρ : am_R} {g : am_J} {τ : am_T} {Q : am_Q} {x0 x1 x2 x3 : Value} {p0 : Int32} (hs : st.length ≤ 4) : AW (d + 1) 141 8 [x0, x1, x2, x3] (.int p0 :: st) σ ρ g τ Q = AW d 104 0 [.int p0] [] σ ρ g τ (fun r9 σ ρ g τ => AW (d + 1) 141 11 [x0, x1, x2, x3] (r9.toList ++ st) σ ρ g τ Q) := aw_cs m141 d141_8 rfl (by simp only [List.length_cons]; omega) rfl rfl en104 ok104 rfl hs
theorem d141_11 : decode cX11_taking 11 = .ok (.ifCond .ne 5, 3) := by decide +kernel
theorem s141_11 {d : Nat} {st : List Value} {σ : am_I} {ρ : am_R} {g : am_J} {τ : am_T} {Q : am_Q} {x0 x1 x2 x3 : Value} {v : Int32} : AW d 141 11 [x0, x1, x2, x3] (.int v :: st) σ ρ g τ Q = if ¬ v = 0 then AW d 141 16 [x0, x1, x2, x3] (st) σ ρ g τ Q else AW d 141 14 [x0, x1, x2, x3] (st) σ ρ g τ Q := aw_br m141 d141_11 rfl rfl rfl
theorem d141_14 : decode cX11_taking 14 = .ok (.iconst (-1), 1) := by decide +kernel
theorem s141_14 {d : Nat} {st : List Value} {σ : am_I} {ρ : am_R} {g : am_J} {τ : am_T} {Q : am_Q} {x0 x1 x2 x3 : Value} : AW d 141 14 [x0, x1, x2, x3] (st) σ ρ g τ Q = AW d 141 15 [x0, x1, x2, x3] (.int (-1) :: st) σ ρ g τ Q := aw_lc m141 d141_14 rfl rfl rfl
theorem d141_15 : decode cX11_taking 15 = .ok (.ireturn, 1) := by decide +kernel
theorem s141_15 {d : Nat} {σ : am_I} {ρ : am_R} {g : am_J} {τ : am_T} {Q : am_Q} {x0 x1 x2 x3 : Value} {v : Int32} : AW d 141 15 [x0, x1, x2, x3] ([.int v]) σ ρ g τ Q = Q (some (.int v)) σ ρ g τ := aw_ri m141 d141_15 rfl
theorem d141_16 : decode cX11_taking 16 = .ok (.aload_n 0, 1) := by decide +kernel
theorem s141_16 {d : Nat} {st : List Value} {σ : am_I} {ρ : am_R} {g : am_J} {τ : am_T} {Q : am_Q} {x1 x2 x3 : Value} {v : Nat} : AW d 141 16 [.ref v, x1, x2, x3] (st) σ ρ g τ Q = AW d 141 17 [.ref v, x1, x2, x3] (.ref v :: st) σ ρ g τ Q := aw_lc m141 d141_16 rfl rfl rfl
theorem d141_17 : decode cX11_taking 17 = .ok (.getfield 10, 3) := by decide +kernel
theorem s141_17 {d : Nat} {st : List Value} {σ : am_I} {ρ : am_R} {g : am_J} {τ : am_T} {Q : am_Q} {x0 x1 x2 x3 : Value} {a : Nat} (ht : τ.1 a = 11) : AW d 141 17 [x0, x1, x2, x3] (.ref a :: st) σ ρ g τ Q = AW d 141 20 [x0, x1, x2, x3] (va_rf (ρ a 0) :: st) σ ρ g τ Q := aw_gr m141 d141_17 rfl rfl rfl ht
theorem d141_20 : decode cX11_taking 20 = .ok (.getfield 378, 3) := by decide +kernel
theorem s141_20 {d : Nat} {st : List Value} {σ : am_I} {ρ : am_R} {g : am_J} {τ : am_T} {Q : am_Q} {x0 x1 x2 x3 : Value} {a : Nat} (ht : τ.1 a = 3) : AW d 141 20 [x0, x1, x2, x3] (.ref a :: st) σ ρ g τ Q = AW d 141 23 [x0, x1, x2, x3] (va_rf (ρ a 14) :: st) σ ρ g τ Q := aw_gr m141 d141_20 rfl rfl rfl ht
theorem d141_23 : decode cX11_taking 23 = .ok (.invokevirtual 326, 3) := by decide +kernel
theorem s141_23 {d : Nat} {st : List Value} {σ : am_I} {ρ : am_R} {g : am_J} {τ : am_T} {Q : am_Q} {x0 x1 x2 x3 : Value} {p0 : Nat} (ht : τ.1 p0 = 4) (hs : st.length ≤ 4) : AW (d + 1) 141 23 [x0, x1, x2, x3] (.ref p0 :: st) σ ρ g τ Q = AW d 43 0 [.ref p0] [] σ ρ g τ (fun r9 σ ρ g τ => AW (d + 1) 141 26 [x0, x1, x2, x3] (r9.toList ++ st) σ ρ g τ Q) := aw_cv m141 d141_23 rfl m43 rfl rfl (by decide) en43 ok43 rfl ht hs
theorem d141_26 : decode cX11_taking 26 = .ok (.ifCond .eq 6, 3) := by decide +kernel
theorem s141_26 {d : Nat} {st : List Value} {σ : am_I} {ρ : am_R} {g : am_J} {τ : am_T} {Q : am_Q} {x0 x1 x2 x3 : Value} {v : Int32} : AW d 141 26 [x0, x1, x2, x3] (.int v :: st) σ ρ g τ Q = if v = 0 then AW d 141 32 [x0, x1, x2, x3] (st) σ ρ g τ Q else AW d 141 29 [x0, x1, x2, x3] (st) σ ρ g τ Q := aw_br m141 d141_26 rfl rfl rfl
theorem d141_29 : decode cX11_taking 29 = .ok (.bipush (-2), 2) := by decide +kernel
theorem s141_29 {d : Nat} {st : List Value} {σ : am_I} {ρ : am_R} {g : am_J} {τ : am_T} {Q : am_Q} {x0 x1 x2 x3 : Value} : AW d 141 29 [x0, x1, x2, x3] (st) σ ρ g τ Q = AW d 141 31 [x0, x1, x2, x3] (.int (-2) :: st) σ ρ g τ Q := aw_lc m141 d141_29 rfl rfl rfl
theorem d141_31 : decode cX11_taking 31 = .ok (.ireturn, 1) := by decide +kernel
theorem s141_31 {d : Nat} {σ : am_I} {ρ : am_R} {g : am_J} {τ : am_T} {Q : am_Q} {x0 x1 x2 x3 : Value} {v : Int32} : AW d 141 31 [x0, x1, x2, x3] ([.int v]) σ ρ g τ Q = Q (some (.int v)) σ ρ g τ := aw_ri m141 d141_31 rfl
theorem d141_32 : decode cX11_taking 32 = .ok (.aload_n 0, 1) := by decide +kernel
theorem s141_32 {d : Nat} {st : List Value} {σ : am_I} {ρ : am_R} {g : am_J} {τ : am_T} {Q : am_Q} {x1 x2 x3 : Value} {v : Nat} : AW d 141 32 [.ref v, x1, x2, x3] (st) σ ρ g τ Q = AW d 141 33 [.ref v, x1, x2, x3] (.ref v :: st) σ ρ g τ Q := aw_lc m141 d141_32 rfl rfl rfl
theorem d141_33 : decode cX11_taking 33 = .ok (.getfield 10, 3) := by decide +kernel
theorem s141_33 {d : Nat} {st : List Value} {σ : am_I} {ρ : am_R} {g : am_J} {τ : am_T} {Q : am_Q} {x0 x1 x2 x3 : Value} {a : Nat} (ht : τ.1 a = 11) : AW d 141 33 [x0, x1, x2, x3] (.ref a :: st) σ ρ g τ Q = AW d 141 36 [x0, x1, x2, x3] (va_rf (ρ a 0) :: st) σ ρ g τ Q := aw_gr m141 d141_33 rfl rfl rfl ht
theorem d141_36 : decode cX11_taking 36 = .ok (.getfield 378, 3) := by decide +kernel
theorem s141_36 {d : Nat} {st : List Value} {σ : am_I} {ρ : am_R} {g : am_J} {τ : am_T} {Q : am_Q} {x0 x1 x2 x3 : Value} {a : Nat} (ht : τ.1 a = 3) : AW d 141 36 [x0, x1, x2, x3] (.ref a :: st) σ ρ g τ Q = AW d 141 39 [x0, x1, x2, x3] (va_rf (ρ a 14) :: st) σ ρ g τ Q := aw_gr m141 d141_36 rfl rfl rfl ht
theorem d141_39 : decode cX11_taking 39 = .ok (.invokevirtual 329, 3) := by decide +kernel
theorem s141_39 {d : Nat} {st : List Value} {σ : am_I} {ρ : am_R} {g : am_J} {τ : am_T} {Q : am_Q} {x0 x1 x2 x3 : Value} {p0 : Nat} (ht : τ.1 p0 = 4) (hs : st.length ≤ 4) : AW (d + 1) 141 39 [x0, x1, x2, x3] (.ref p0 :: st) σ ρ g τ Q = AW d 45 0 [.ref p0] [] σ ρ g τ (fun r9 σ ρ g τ => AW (d + 1) 141 42 [x0, x1, x2, x3] (r9.toList ++ st) σ ρ g τ Q) := aw_cv m141 d141_39 rfl m45 rfl rfl (by decide) en45 ok45 rfl ht hs
theorem d141_42 : decode cX11_taking 42 = .ok (.istore_n 3, 1) := by decide +kernel
theorem s141_42 {d : Nat} {st : List Value} {σ : am_I} {ρ : am_R} {g : am_J} {τ : am_T} {Q : am_Q} {x0 x1 x3 : Value} {v : Int32} {u : Int32} : AW d 141 42 [x0, x1, .int u, x3] (.int v :: st) σ ρ g τ Q = AW d 141 43 [x0, x1, .int u, .int v] (st) σ ρ g τ Q := aw_lc m141 d141_42 rfl rfl rfl
theorem d141_43 : decode cX11_taking 43 = .ok (.aload_n 0, 1) := by decide +kernel
theorem s141_43 {d : Nat} {st : List Value} {σ : am_I} {ρ : am_R} {g : am_J} {τ : am_T} {Q : am_Q} {x1 x2 x3 : Value} {v : Nat} : AW d 141 43 [.ref v, x1, x2, x3] (st) σ ρ g τ Q = AW d 141 44 [.ref v, x1, x2, x3] (.ref v :: st) σ ρ g τ Q := aw_lc m141 d141_43 rfl rfl rfl
theorem d141_44 : decode cX11_taking 44 = .ok (.getfield 10, 3) := by decide +kernel
theorem s141_44 {d : Nat} {st : List Value} {σ : am_I} {ρ : am_R} {g : am_J} {τ : am_T} {Q : am_Q} {x0 x1 x2 x3 : Value} {a : Nat} (ht : τ.1 a = 11) : AW d 141 44 [x0, x1, x2, x3] (.ref a :: st) σ ρ g τ Q = AW d 141 47 [x0, x1, x2, x3] (va_rf (ρ a 0) :: st) σ ρ g τ Q := aw_gr m141 d141_44 rfl rfl rfl ht
theorem d141_47 : decode cX11_taking 47 = .ok (.getfield 378, 3) := by decide +kernel
theorem s141_47 {d : Nat} {st : List Value} {σ : am_I} {ρ : am_R} {g : am_J} {τ : am_T} {Q : am_Q} {x0 x1 x2 x3 : Value} {a : Nat} (ht : τ.1 a = 3) : AW d 141 47 [x0, x1, x2, x3] (.ref a :: st) σ ρ g τ Q = AW d 141 50 [x0, x1, x2, x3] (va_rf (ρ a 14) :: st) σ ρ g τ Q := aw_gr m141 d141_47 rfl rfl rfl ht
theorem d141_50 : decode cX11_taking 50 = .ok (.iload_n 3, 1) := by decide +kernel
theorem s141_50 {d : Nat} {st : List Value} {σ : am_I} {ρ : am_R} {g : am_J} {τ : am_T} {Q : am_Q} {x0 x1 x2 : Value} {v : Int32} : AW d 141 50 [x0, x1, x2, .int v] (st) σ ρ g τ Q = AW d 141 51 [x0, x1, x2, .int v] (.int v :: st) σ ρ g τ Q := aw_lc m141 d141_50 rfl rfl rfl
theorem d141_51 : decode cX11_taking 51 = .ok (.iconst 0, 1) := by decide +kernel
theorem s141_51 {d : Nat} {st : List Value} {σ : am_I} {ρ : am_R} {g : am_J} {τ : am_T} {Q : am_Q} {x0 x1 x2 x3 : Value} : AW d 141 51 [x0, x1, x2, x3] (st) σ ρ g τ Q = AW d 141 52 [x0, x1, x2, x3] (.int 0 :: st) σ ρ g τ Q := aw_lc m141 d141_51 rfl rfl rfl
theorem d141_52 : decode cX11_taking 52 = .ok (.iload_n 1, 1) := by decide +kernel
theorem s141_52 {d : Nat} {st : List Value} {σ : am_I} {ρ : am_R} {g : am_J} {τ : am_T} {Q : am_Q} {x0 x2 x3 : Value} {v : Int32} : AW d 141 52 [x0, .int v, x2, x3] (st) σ ρ g τ Q = AW d 141 53 [x0, .int v, x2, x3] (.int v :: st) σ ρ g τ Q := aw_lc m141 d141_52 rfl rfl rfl
theorem d141_53 : decode cX11_taking 53 = .ok (.invokevirtual 332, 3) := by decide +kernel
theorem s141_53 {d : Nat} {st : List Value} {σ : am_I} {ρ : am_R} {g : am_J} {τ : am_T} {Q : am_Q} {x0 x1 x2 x3 : Value} {p0 : Nat} {p1 : Int32} {p2 : Int32} {p3 : Int32} (ht : τ.1 p0 = 4) (hs : st.length ≤ 4) : AW (d + 1) 141 53 [x0, x1, x2, x3] (.int p3 :: .int p2 :: .int p1 :: .ref p0 :: st) σ ρ g τ Q = AW d 47 0 [.ref p0, .int p1, .int p2, .int p3] [] σ ρ g τ (fun r9 σ ρ g τ => AW (d + 1) 141 56 [x0, x1, x2, x3] (r9.toList ++ st) σ ρ g τ Q) := aw_cv m141 d141_53 rfl m47 rfl rfl (by decide) en47 ok47 rfl ht hs
theorem d141_56 : decode cX11_taking 56 = .ok (.aload_n 0, 1) := by decide +kernel
theorem s141_56 {d : Nat} {st : List Value} {σ : am_I} {ρ : am_R} {g : am_J} {τ : am_T} {Q : am_Q} {x1 x2 x3 : Value} {v : Nat} : AW d 141 56 [.ref v, x1, x2, x3] (st) σ ρ g τ Q = AW d 141 57 [.ref v, x1, x2, x3] (.ref v :: st) σ ρ g τ Q := aw_lc m141 d141_56 rfl rfl rfl
theorem d141_57 : decode cX11_taking 57 = .ok (.getfield 10, 3) := by decide +kernel
theorem s141_57 {d : Nat} {st : List Value} {σ : am_I} {ρ : am_R} {g : am_J} {τ : am_T} {Q : am_Q} {x0 x1 x2 x3 : Value} {a : Nat} (ht : τ.1 a = 11) : AW d 141 57 [x0, x1, x2, x3] (.ref a :: st) σ ρ g τ Q = AW d 141 60 [x0, x1, x2, x3] (va_rf (ρ a 0) :: st) σ ρ g τ Q := aw_gr m141 d141_57 rfl rfl rfl ht
theorem d141_60 : decode cX11_taking 60 = .ok (.getfield 378, 3) := by decide +kernel
theorem s141_60 {d : Nat} {st : List Value} {σ : am_I} {ρ : am_R} {g : am_J} {τ : am_T} {Q : am_Q} {x0 x1 x2 x3 : Value} {a : Nat} (ht : τ.1 a = 3) : AW d 141 60 [x0, x1, x2, x3] (.ref a :: st) σ ρ g τ Q = AW d 141 63 [x0, x1, x2, x3] (va_rf (ρ a 14) :: st) σ ρ g τ Q := aw_gr m141 d141_60 rfl rfl rfl ht
theorem d141_63 : decode cX11_taking 63 = .ok (.iload_n 3, 1) := by decide +kernel
theorem s141_63 {d : Nat} {st : List Value} {σ : am_I} {ρ : am_R} {g : am_J} {τ : am_T} {Q : am_Q} {x0 x1 x2 : Value} {v : Int32} : AW d 141 63 [x0, x1, x2, .int v] (st) σ ρ g τ Q = AW d 141 64 [x0, x1, x2, .int v] (.int v :: st) σ ρ g τ Q := aw_lc m141 d141_63 rfl rfl rfl
theorem d141_64 : decode cX11_taking 64 = .ok (.iconst 1, 1) := by decide +kernel
theorem s141_64 {d : Nat} {st : List Value} {σ : am_I} {ρ : am_R} {g : am_J} {τ : am_T} {Q : am_Q} {x0 x1 x2 x3 : Value} : AW d 141 64 [x0, x1, x2, x3] (st) σ ρ g τ Q = AW d 141 65 [x0, x1, x2, x3] (.int 1 :: st) σ ρ g τ Q := aw_lc m141 d141_64 rfl rfl rfl
theorem d141_65 : decode cX11_taking 65 = .ok (.iload_n 2, 1) := by decide +kernel
theorem s141_65 {d : Nat} {st : List Value} {σ : am_I} {ρ : am_R} {g : am_J} {τ : am_T} {Q : am_Q} {x0 x1 x3 : Value} {v : Int32} : AW d 141 65 [x0, x1, .int v, x3] (st) σ ρ g τ Q = AW d 141 66 [x0, x1, .int v, x3] (.int v :: st) σ ρ g τ Q := aw_lc m141 d141_65 rfl rfl rfl
theorem d141_66 : decode cX11_taking 66 = .ok (.invokevirtual 332, 3) := by decide +kernel
theorem s141_66 {d : Nat} {st : List Value} {σ : am_I} {ρ : am_R} {g : am_J} {τ : am_T} {Q : am_Q} {x0 x1 x2 x3 : Value} {p0 : Nat} {p1 : Int32} {p2 : Int32} {p3 : Int32} (ht : τ.1 p0 = 4) (hs : st.length ≤ 4) : AW (d + 1) 141 66 [x0, x1, x2, x3] (.int p3 :: .int p2 :: .int p1 :: .ref p0 :: st) σ ρ g τ Q = AW d 47 0 [.ref p0, .int p1, .int p2, .int p3] [] σ ρ g τ (fun r9 σ ρ g τ => AW (d + 1) 141 69 [x0, x1, x2, x3] (r9.toList ++ st) σ ρ g τ Q) := aw_cv m141 d141_66 rfl m47 rfl rfl (by decide) en47 ok47 rfl ht hs
theorem d141_69 : decode cX11_taking 69 = .ok (.aload_n 0, 1) := by decide +kernel
theorem s141_69 {d : Nat} {st : List Value} {σ : am_I} {ρ : am_R} {g : am_J} {τ : am_T} {Q : am_Q} {x1 x2 x3 : Value} {v : Nat} : AW d 141 69 [.ref v, x1, x2, x3] (st) σ ρ g τ Q = AW d 141 70 [.ref v, x1, x2, x3] (.ref v :: st) σ ρ g τ Q := aw_lc m141 d141_69 rfl rfl rfl
theorem d141_70 : decode cX11_taking 70 = .ok (.getfield 10, 3) := by decide +kernel
theorem s141_70 {d : Nat} {st : List Value} {σ : am_I} {ρ : am_R} {g : am_J} {τ : am_T} {Q : am_Q} {x0 x1 x2 x3 : Value} {a : Nat} (ht : τ.1 a = 11) : AW d 141 70 [x0, x1, x2, x3] (.ref a :: st) σ ρ g τ Q = AW d 141 73 [x0, x1, x2, x3] (va_rf (ρ a 0) :: st) σ ρ g τ Q := aw_gr m141 d141_70 rfl rfl rfl ht
theorem d141_73 : decode cX11_taking 73 = .ok (.getfield 378, 3) := by decide +kernel
theorem s141_73 {d : Nat} {st : List Value} {σ : am_I} {ρ : am_R} {g : am_J} {τ : am_T} {Q : am_Q} {x0 x1 x2 x3 : Value} {a : Nat} (ht : τ.1 a = 3) : AW d 141 73 [x0, x1, x2, x3] (.ref a :: st) σ ρ g τ Q = AW d 141 76 [x0, x1, x2, x3] (va_rf (ρ a 14) :: st) σ ρ g τ Q := aw_gr m141 d141_73 rfl rfl rfl ht
theorem d141_76 : decode cX11_taking 76 = .ok (.iload_n 3, 1) := by decide +kernel
theorem s141_76 {d : Nat} {st : List Value} {σ : am_I} {ρ : am_R} {g : am_J} {τ : am_T} {Q : am_Q} {x0 x1 x2 : Value} {v : Int32} : AW d 141 76 [x0, x1, x2, .int v] (st) σ ρ g τ Q = AW d 141 77 [x0, x1, x2, .int v] (.int v :: st) σ ρ g τ Q := aw_lc m141 d141_76 rfl rfl rfl
theorem d141_77 : decode cX11_taking 77 = .ok (.iconst 2, 1) := by decide +kernel
theorem s141_77 {d : Nat} {st : List Value} {σ : am_I} {ρ : am_R} {g : am_J} {τ : am_T} {Q : am_Q} {x0 x1 x2 x3 : Value} : AW d 141 77 [x0, x1, x2, x3] (st) σ ρ g τ Q = AW d 141 78 [x0, x1, x2, x3] (.int 2 :: st) σ ρ g τ Q := aw_lc m141 d141_77 rfl rfl rfl
theorem d141_78 : decode cX11_taking 78 = .ok (.aload_n 0, 1) := by decide +kernel
theorem s141_78 {d : Nat} {st : List Value} {σ : am_I} {ρ : am_R} {g : am_J} {τ : am_T} {Q : am_Q} {x1 x2 x3 : Value} {v : Nat} : AW d 141 78 [.ref v, x1, x2, x3] (st) σ ρ g τ Q = AW d 141 79 [.ref v, x1, x2, x3] (.ref v :: st) σ ρ g τ Q := aw_lc m141 d141_78 rfl rfl rfl
theorem d141_79 : decode cX11_taking 79 = .ok (.getfield 10, 3) := by decide +kernel
theorem s141_79 {d : Nat} {st : List Value} {σ : am_I} {ρ : am_R} {g : am_J} {τ : am_T} {Q : am_Q} {x0 x1 x2 x3 : Value} {a : Nat} (ht : τ.1 a = 11) : AW d 141 79 [x0, x1, x2, x3] (.ref a :: st) σ ρ g τ Q = AW d 141 82 [x0, x1, x2, x3] (va_rf (ρ a 0) :: st) σ ρ g τ Q := aw_gr m141 d141_79 rfl rfl rfl ht
theorem d141_82 : decode cX11_taking 82 = .ok (.getfield 78, 3) := by decide +kernel
theorem s141_82 {d : Nat} {st : List Value} {σ : am_I} {ρ : am_R} {g : am_J} {τ : am_T} {Q : am_Q} {x0 x1 x2 x3 : Value} {a : Nat} (ht : τ.1 a = 3) : AW d 141 82 [x0, x1, x2, x3] (.ref a :: st) σ ρ g τ Q = AW d 141 85 [x0, x1, x2, x3] (.int (σ a 0) :: st) σ ρ g τ Q := aw_gi m141 d141_82 rfl rfl rfl ht
theorem d141_85 : decode cX11_taking 85 = .ok (.invokevirtual 332, 3) := by decide +kernel
theorem s141_85 {d : Nat} {st : List Value} {σ : am_I} {ρ : am_R} {g : am_J} {τ : am_T} {Q : am_Q} {x0 x1 x2 x3 : Value} {p0 : Nat} {p1 : Int32} {p2 : Int32} {p3 : Int32} (ht : τ.1 p0 = 4) (hs : st.length ≤ 4) : AW (d + 1) 141 85 [x0, x1, x2, x3] (.int p3 :: .int p2 :: .int p1 :: .ref p0 :: st) σ ρ g τ Q = AW d 47 0 [.ref p0, .int p1, .int p2, .int p3] [] σ ρ g τ (fun r9 σ ρ g τ => AW (d + 1) 141 88 [x0, x1, x2, x3] (r9.toList ++ st) σ ρ g τ Q) := aw_cv m141 d141_85 rfl m47 rfl rfl (by decide) en47 ok47 rfl ht hs
theorem d141_88 : decode cX11_taking 88 = .ok (.iload_n 3, 1) := by decide +kernel
theorem s141_88 {d : Nat} {st : List Value} {σ : am_I} {ρ : am_R} {g : am_J} {τ : am_T} {Q : am_Q} {x0 x1 x2 : Value} {v : Int32} : AW d 141 88 [x0, x1, x2, .int v] (st) σ ρ g τ Q = AW d 141 89 [x0, x1, x2, .int v] (.int v :: st) σ ρ g τ Q := aw_lc m141 d141_88 rfl rfl rfl
theorem d141_89 : decode cX11_taking 89 = .ok (.ireturn, 1) := by decide +kernel
theorem s141_89 {d : Nat} {σ : am_I} {ρ : am_R} {g : am_J} {τ : am_T} {Q : am_Q} {x0 x1 x2 x3 : Value} {v : Int32} : AW d 141 89 [x0, x1, x2, x3] ([.int v]) σ ρ g τ Q = Q (some (.int v)) σ ρ g τ := aw_ri m141 d141_89 rfl
theorem d142_0 : decode cX11_takings 0 = .ok (.iload_n 1, 1) := by decide +kernel
theorem s142_0 {d : Nat} {st : List Value} {σ : am_I} {ρ : am_R} {g : am_J} {τ : am_T} {Q : am_Q} {x0 x2 x3 x4 x5 : Value} {v : Int32} : AW d 142 0 [x0, .int v, x2, x3, x4, x5] (st) σ ρ g τ Q = AW d 142 1 [x0, .int v, x2, x3, x4, x5] (.int v :: st) σ ρ g τ Q := aw_lc m142 d142_0 rfl rfl rfl
theorem d142_1 : decode cX11_takings 1 = .ok (.iconst 0, 1) := by decide +kernel
theorem s142_1 {d : Nat} {st : List Value} {σ : am_I} {ρ : am_R} {g : am_J} {τ : am_T} {Q : am_Q} {x0 x1 x2 x3 x4 x5 : Value} : AW d 142 1 [x0, x1, x2, x3, x4, x5] (st) σ ρ g τ Q = AW d 142 2 [x0, x1, x2, x3, x4, x5] (.int 0 :: st) σ ρ g τ Q := aw_lc m142 d142_1 rfl rfl rfl
theorem d142_2 : decode cX11_takings 2 = .ok (.iconst 1, 1) := by decide +kernel
theorem s142_2 {d : Nat} {st : List Value} {σ : am_I} {ρ : am_R} {g : am_J} {τ : am_T} {Q : am_Q} {x0 x1 x2 x3 x4 x5 : Value} : AW d 142 2 [x0, x1, x2, x3, x4, x5] (st) σ ρ g τ Q = AW d 142 3 [x0, x1, x2, x3, x4, x5] (.int 1 :: st) σ ρ g τ Q := aw_lc m142 d142_2 rfl rfl rfl
theorem d142_3 : decode cX11_takings 3 = .ok (.invokestatic 74, 3) := by decide +kernel
theorem s142_3 {d : Nat} {st : List Value} {σ : am_I} {ρ : am_R} {g : am_J} {τ : am_T} {Q : am_Q} {x0 x1 x2 x3 x4 x5 : Value} {p0 : Int32} {p1 : Int32} {p2 : Int32} (hs : st.length ≤ 4) : AW (d + 1) 142 3 [x0, x1, x2, x3, x4, x5] (.int p2 :: .int p1 :: .int p0 :: st) σ ρ g τ Q = AW d 100 0 [.int p0, .int p1, .int p2] [] σ ρ g τ (fun r9 σ ρ g τ => AW (d + 1) 142 6 [x0, x1, x2, x3, x4, x5] (r9.toList ++ st) σ ρ g τ Q) := aw_cs m142 d142_3 rfl (by simp only [List.length_cons]; omega) rfl rfl en100 ok100 rfl hs
theorem d142_6 : decode cX11_takings 6 = .ok (.ifCond .ne 5, 3) := by decide +kernel
theorem s142_6 {d : Nat} {st : List Value} {σ : am_I} {ρ : am_R} {g : am_J} {τ : am_T} {Q : am_Q} {x0 x1 x2 x3 x4 x5 : Value} {v : Int32} : AW d 142 6 [x0, x1, x2, x3, x4, x5] (.int v :: st) σ ρ g τ Q = if ¬ v = 0 then AW d 142 11 [x0, x1, x2, x3, x4, x5] (st) σ ρ g τ Q else AW d 142 9 [x0, x1, x2, x3, x4, x5] (st) σ ρ g τ Q := aw_br m142 d142_6 rfl rfl rfl
theorem d142_9 : decode cX11_takings 9 = .ok (.iconst (-1), 1) := by decide +kernel
theorem s142_9 {d : Nat} {st : List Value} {σ : am_I} {ρ : am_R} {g : am_J} {τ : am_T} {Q : am_Q} {x0 x1 x2 x3 x4 x5 : Value} : AW d 142 9 [x0, x1, x2, x3, x4, x5] (st) σ ρ g τ Q = AW d 142 10 [x0, x1, x2, x3, x4, x5] (.int (-1) :: st) σ ρ g τ Q := aw_lc m142 d142_9 rfl rfl rfl
theorem d142_10 : decode cX11_takings 10 = .ok (.ireturn, 1) := by decide +kernel
theorem s142_10 {d : Nat} {σ : am_I} {ρ : am_R} {g : am_J} {τ : am_T} {Q : am_Q} {x0 x1 x2 x3 x4 x5 : Value} {v : Int32} : AW d 142 10 [x0, x1, x2, x3, x4, x5] ([.int v]) σ ρ g τ Q = Q (some (.int v)) σ ρ g τ := aw_ri m142 d142_10 rfl
theorem d142_11 : decode cX11_takings 11 = .ok (.iconst 0, 1) := by decide +kernel
theorem s142_11 {d : Nat} {st : List Value} {σ : am_I} {ρ : am_R} {g : am_J} {τ : am_T} {Q : am_Q} {x0 x1 x2 x3 x4 x5 : Value} : AW d 142 11 [x0, x1, x2, x3, x4, x5] (st) σ ρ g τ Q = AW d 142 12 [x0, x1, x2, x3, x4, x5] (.int 0 :: st) σ ρ g τ Q := aw_lc m142 d142_11 rfl rfl rfl
theorem d142_12 : decode cX11_takings 12 = .ok (.istore_n 2, 1) := by decide +kernel
theorem s142_12 {d : Nat} {st : List Value} {σ : am_I} {ρ : am_R} {g : am_J} {τ : am_T} {Q : am_Q} {x0 x2 x3 x4 x5 : Value} {v : Int32} {u : Int32} : AW d 142 12 [x0, .int u, x2, x3, x4, x5] (.int v :: st) σ ρ g τ Q = AW d 142 13 [x0, .int u, .int v, x3, x4, x5] (st) σ ρ g τ Q := aw_lc m142 d142_12 rfl rfl rfl
theorem d142_13 : decode cX11_takings 13 = .ok (.iconst 0, 1) := by decide +kernel
theorem s142_13 {d : Nat} {st : List Value} {σ : am_I} {ρ : am_R} {g : am_J} {τ : am_T} {Q : am_Q} {x0 x1 x2 x3 x4 x5 : Value} : AW d 142 13 [x0, x1, x2, x3, x4, x5] (st) σ ρ g τ Q = AW d 142 14 [x0, x1, x2, x3, x4, x5] (.int 0 :: st) σ ρ g τ Q := aw_lc m142 d142_13 rfl rfl rfl
theorem d142_14 : decode cX11_takings 14 = .ok (.istore_n 3, 1) := by decide +kernel
theorem s142_14 {d : Nat} {st : List Value} {σ : am_I} {ρ : am_R} {g : am_J} {τ : am_T} {Q : am_Q} {x0 x1 x3 x4 x5 : Value} {v : Int32} {u : Int32} : AW d 142 14 [x0, x1, .int u, x3, x4, x5] (.int v :: st) σ ρ g τ Q = AW d 142 15 [x0, x1, .int u, .int v, x4, x5] (st) σ ρ g τ Q := aw_lc m142 d142_14 rfl rfl rfl
theorem d142_15 : decode cX11_takings 15 = .ok (.iconst 0, 1) := by decide +kernel
theorem s142_15 {d : Nat} {st : List Value} {σ : am_I} {ρ : am_R} {g : am_J} {τ : am_T} {Q : am_Q} {x0 x1 x2 x3 x4 x5 : Value} : AW d 142 15 [x0, x1, x2, x3, x4, x5] (st) σ ρ g τ Q = AW d 142 16 [x0, x1, x2, x3, x4, x5] (.int 0 :: st) σ ρ g τ Q := aw_lc m142 d142_15 rfl rfl rfl
theorem d142_16 : decode cX11_takings 16 = .ok (.istore 4, 2) := by decide +kernel
theorem s142_16 {d : Nat} {st : List Value} {σ : am_I} {ρ : am_R} {g : am_J} {τ : am_T} {Q : am_Q} {x0 x1 x2 x4 x5 : Value} {v : Int32} {u : Int32} : AW d 142 16 [x0, x1, x2, .int u, x4, x5] (.int v :: st) σ ρ g τ Q = AW d 142 18 [x0, x1, x2, .int u, .int v, x5] (st) σ ρ g τ Q := aw_lc m142 d142_16 rfl rfl rfl
theorem d142_18 : decode cX11_takings 18 = .ok (.iload 4, 2) := by decide +kernel
theorem s142_18 {d : Nat} {st : List Value} {σ : am_I} {ρ : am_R} {g : am_J} {τ : am_T} {Q : am_Q} {x0 x1 x2 x3 x5 : Value} {v : Int32} : AW d 142 18 [x0, x1, x2, x3, .int v, x5] (st) σ ρ g τ Q = AW d 142 20 [x0, x1, x2, x3, .int v, x5] (.int v :: st) σ ρ g τ Q := aw_lc m142 d142_18 rfl rfl rfl
theorem d142_20 : decode cX11_takings 20 = .ok (.aload_n 0, 1) := by decide +kernel
theorem s142_20 {d : Nat} {st : List Value} {σ : am_I} {ρ : am_R} {g : am_J} {τ : am_T} {Q : am_Q} {x1 x2 x3 x4 x5 : Value} {v : Nat} : AW d 142 20 [.ref v, x1, x2, x3, x4, x5] (st) σ ρ g τ Q = AW d 142 21 [.ref v, x1, x2, x3, x4, x5] (.ref v :: st) σ ρ g τ Q := aw_lc m142 d142_20 rfl rfl rfl
theorem d142_21 : decode cX11_takings 21 = .ok (.getfield 10, 3) := by decide +kernel
theorem s142_21 {d : Nat} {st : List Value} {σ : am_I} {ρ : am_R} {g : am_J} {τ : am_T} {Q : am_Q} {x0 x1 x2 x3 x4 x5 : Value} {a : Nat} (ht : τ.1 a = 11) : AW d 142 21 [x0, x1, x2, x3, x4, x5] (.ref a :: st) σ ρ g τ Q = AW d 142 24 [x0, x1, x2, x3, x4, x5] (va_rf (ρ a 0) :: st) σ ρ g τ Q := aw_gr m142 d142_21 rfl rfl rfl ht
theorem d142_24 : decode cX11_takings 24 = .ok (.getfield 378, 3) := by decide +kernel
theorem s142_24 {d : Nat} {st : List Value} {σ : am_I} {ρ : am_R} {g : am_J} {τ : am_T} {Q : am_Q} {x0 x1 x2 x3 x4 x5 : Value} {a : Nat} (ht : τ.1 a = 3) : AW d 142 24 [x0, x1, x2, x3, x4, x5] (.ref a :: st) σ ρ g τ Q = AW d 142 27 [x0, x1, x2, x3, x4, x5] (va_rf (ρ a 14) :: st) σ ρ g τ Q := aw_gr m142 d142_24 rfl rfl rfl ht
theorem d142_27 : decode cX11_takings 27 = .ok (.getfield 359, 3) := by decide +kernel
theorem s142_27 {d : Nat} {st : List Value} {σ : am_I} {ρ : am_R} {g : am_J} {τ : am_T} {Q : am_Q} {x0 x1 x2 x3 x4 x5 : Value} {a : Nat} (ht : τ.1 a = 4) : AW d 142 27 [x0, x1, x2, x3, x4, x5] (.ref a :: st) σ ρ g τ Q = AW d 142 30 [x0, x1, x2, x3, x4, x5] (.int (σ a 3) :: st) σ ρ g τ Q := aw_gi m142 d142_27 rfl rfl rfl ht
theorem d142_30 : decode cX11_takings 30 = .ok (.if_icmp .ge 63, 3) := by decide +kernel
theorem s142_30 {d : Nat} {st : List Value} {σ : am_I} {ρ : am_R} {g : am_J} {τ : am_T} {Q : am_Q} {x0 x1 x2 x3 x4 x5 : Value} {v w : Int32} : AW d 142 30 [x0, x1, x2, x3, x4, x5] (.int w :: .int v :: st) σ ρ g τ Q = if w ≤ v then AW d 142 93 [x0, x1, x2, x3, x4, x5] (st) σ ρ g τ Q else AW d 142 33 [x0, x1, x2, x3, x4, x5] (st) σ ρ g τ Q := aw_br m142 d142_30 rfl rfl rfl
theorem d142_33 : decode cX11_takings 33 = .ok (.aload_n 0, 1) := by decide +kernel
theorem s142_33 {d : Nat} {st : List Value} {σ : am_I} {ρ : am_R} {g : am_J} {τ : am_T} {Q : am_Q} {x1 x2 x3 x4 x5 : Value} {v : Nat} : AW d 142 33 [.ref v, x1, x2, x3, x4, x5] (st) σ ρ g τ Q = AW d 142 34 [.ref v, x1, x2, x3, x4, x5] (.ref v :: st) σ ρ g τ Q := aw_lc m142 d142_33 rfl rfl rfl
theorem d142_34 : decode cX11_takings 34 = .ok (.getfield 10, 3) := by decide +kernel
theorem s142_34 {d : Nat} {st : List Value} {σ : am_I} {ρ : am_R} {g : am_J} {τ : am_T} {Q : am_Q} {x0 x1 x2 x3 x4 x5 : Value} {a : Nat} (ht : τ.1 a = 11) : AW d 142 34 [x0, x1, x2, x3, x4, x5] (.ref a :: st) σ ρ g τ Q = AW d 142 37 [x0, x1, x2, x3, x4, x5] (va_rf (ρ a 0) :: st) σ ρ g τ Q := aw_gr m142 d142_34 rfl rfl rfl ht
theorem d142_37 : decode cX11_takings 37 = .ok (.iload 4, 2) := by decide +kernel
theorem s142_37 {d : Nat} {st : List Value} {σ : am_I} {ρ : am_R} {g : am_J} {τ : am_T} {Q : am_Q} {x0 x1 x2 x3 x5 : Value} {v : Int32} : AW d 142 37 [x0, x1, x2, x3, .int v, x5] (st) σ ρ g τ Q = AW d 142 39 [x0, x1, x2, x3, .int v, x5] (.int v :: st) σ ρ g τ Q := aw_lc m142 d142_37 rfl rfl rfl
theorem d142_39 : decode cX11_takings 39 = .ok (.invokevirtual 381, 3) := by decide +kernel
theorem s142_39 {d : Nat} {st : List Value} {σ : am_I} {ρ : am_R} {g : am_J} {τ : am_T} {Q : am_Q} {x0 x1 x2 x3 x4 x5 : Value} {p0 : Nat} {p1 : Int32} (ht : τ.1 p0 = 3) (hs : st.length ≤ 4) : AW (d + 1) 142 39 [x0, x1, x2, x3, x4, x5] (.int p1 :: .ref p0 :: st) σ ρ g τ Q = AW d 37 0 [.ref p0, .int p1, am_jk, am_jk] [] σ ρ g τ (fun r9 σ ρ g τ => AW (d + 1) 142 42 [x0, x1, x2, x3, x4, x5] (r9.toList ++ st) σ ρ g τ Q) := aw_cv m142 d142_39 rfl m37 rfl rfl (by decide) en37 ok37 rfl ht hs
theorem d142_42 : decode cX11_takings 42 = .ok (.aload_n 0, 1) := by decide +kernel
theorem s142_42 {d : Nat} {st : List Value} {σ : am_I} {ρ : am_R} {g : am_J} {τ : am_T} {Q : am_Q} {x1 x2 x3 x4 x5 : Value} {v : Nat} : AW d 142 42 [.ref v, x1, x2, x3, x4, x5] (st) σ ρ g τ Q = AW d 142 43 [.ref v, x1, x2, x3, x4, x5] (.ref v :: st) σ ρ g τ Q := aw_lc m142 d142_42 rfl rfl rfl
theorem d142_43 : decode cX11_takings 43 = .ok (.getfield 10, 3) := by decide +kernel
theorem s142_43 {d : Nat} {st : List Value} {σ : am_I} {ρ : am_R} {g : am_J} {τ : am_T} {Q : am_Q} {x0 x1 x2 x3 x4 x5 : Value} {a : Nat} (ht : τ.1 a = 11) : AW d 142 43 [x0, x1, x2, x3, x4, x5] (.ref a :: st) σ ρ g τ Q = AW d 142 46 [x0, x1, x2, x3, x4, x5] (va_rf (ρ a 0) :: st) σ ρ g τ Q := aw_gr m142 d142_43 rfl rfl rfl ht
theorem d142_46 : decode cX11_takings 46 = .ok (.iload 4, 2) := by decide +kernel
theorem s142_46 {d : Nat} {st : List Value} {σ : am_I} {ρ : am_R} {g : am_J} {τ : am_T} {Q : am_Q} {x0 x1 x2 x3 x5 : Value} {v : Int32} : AW d 142 46 [x0, x1, x2, x3, .int v, x5] (st) σ ρ g τ Q = AW d 142 48 [x0, x1, x2, x3, .int v, x5] (.int v :: st) σ ρ g τ Q := aw_lc m142 d142_46 rfl rfl rfl
theorem d142_48 : decode cX11_takings 48 = .ok (.invokevirtual 384, 3) := by decide +kernel
theorem s142_48 {d : Nat} {st : List Value} {σ : am_I} {ρ : am_R} {g : am_J} {τ : am_T} {Q : am_Q} {x0 x1 x2 x3 x4 x5 : Value} {p0 : Nat} {p1 : Int32} (ht : τ.1 p0 = 3) (hs : st.length ≤ 4) : AW (d + 1) 142 48 [x0, x1, x2, x3, x4, x5] (.int p1 :: .ref p0 :: st) σ ρ g τ Q = AW d 38 0 [.ref p0, .int p1, am_jk] [] σ ρ g τ (fun r9 σ ρ g τ => AW (d + 1) 142 51 [x0, x1, x2, x3, x4, x5] (r9.toList ++ st) σ ρ g τ Q) := aw_cv m142 d142_48 rfl m38 rfl rfl (by decide) en38 ok38 rfl ht hs
theorem d142_51 : decode cX11_takings 51 = .ok (.isub, 1) := by decide +kernel
theorem s142_51 {d : Nat} {st : List Value} {σ : am_I} {ρ : am_R} {g : am_J} {τ : am_T} {Q : am_Q} {x0 x1 x2 x3 x4 x5 : Value} {v w : Int32} : AW d 142 51 [x0, x1, x2, x3, x4, x5] (.int w :: .int v :: st) σ ρ g τ Q = AW d 142 52 [x0, x1, x2, x3, x4, x5] (.int (v - w) :: st) σ ρ g τ Q := aw_lc m142 d142_51 rfl rfl rfl
theorem d142_52 : decode cX11_takings 52 = .ok (.istore 5, 2) := by decide +kernel
theorem s142_52 {d : Nat} {st : List Value} {σ : am_I} {ρ : am_R} {g : am_J} {τ : am_T} {Q : am_Q} {x0 x1 x2 x3 x5 : Value} {v : Int32} {u : Int32} : AW d 142 52 [x0, x1, x2, x3, .int u, x5] (.int v :: st) σ ρ g τ Q = AW d 142 54 [x0, x1, x2, x3, .int u, .int v] (st) σ ρ g τ Q := aw_lc m142 d142_52 rfl rfl rfl
theorem d142_54 : decode cX11_takings 54 = .ok (.iload 5, 2) := by decide +kernel
theorem s142_54 {d : Nat} {st : List Value} {σ : am_I} {ρ : am_R} {g : am_J} {τ : am_T} {Q : am_Q} {x0 x1 x2 x3 x4 : Value} {v : Int32} : AW d 142 54 [x0, x1, x2, x3, x4, .int v] (st) σ ρ g τ Q = AW d 142 56 [x0, x1, x2, x3, x4, .int v] (.int v :: st) σ ρ g τ Q := aw_lc m142 d142_54 rfl rfl rfl
theorem d142_56 : decode cX11_takings 56 = .ok (.ifCond .le 31, 3) := by decide +kernel
theorem s142_56 {d : Nat} {st : List Value} {σ : am_I} {ρ : am_R} {g : am_J} {τ : am_T} {Q : am_Q} {x0 x1 x2 x3 x4 x5 : Value} {v : Int32} : AW d 142 56 [x0, x1, x2, x3, x4, x5] (.int v :: st) σ ρ g τ Q = if v ≤ 0 then AW d 142 87 [x0, x1, x2, x3, x4, x5] (st) σ ρ g τ Q else AW d 142 59 [x0, x1, x2, x3, x4, x5] (st) σ ρ g τ Q := aw_br m142 d142_56 rfl rfl rfl
theorem d142_59 : decode cX11_takings 59 = .ok (.iload_n 2, 1) := by decide +kernel
theorem s142_59 {d : Nat} {st : List Value} {σ : am_I} {ρ : am_R} {g : am_J} {τ : am_T} {Q : am_Q} {x0 x1 x3 x4 x5 : Value} {v : Int32} : AW d 142 59 [x0, x1, .int v, x3, x4, x5] (st) σ ρ g τ Q = AW d 142 60 [x0, x1, .int v, x3, x4, x5] (.int v :: st) σ ρ g τ Q := aw_lc m142 d142_59 rfl rfl rfl
theorem d142_60 : decode cX11_takings 60 = .ok (.iconst 1, 1) := by decide +kernel
theorem s142_60 {d : Nat} {st : List Value} {σ : am_I} {ρ : am_R} {g : am_J} {τ : am_T} {Q : am_Q} {x0 x1 x2 x3 x4 x5 : Value} : AW d 142 60 [x0, x1, x2, x3, x4, x5] (st) σ ρ g τ Q = AW d 142 61 [x0, x1, x2, x3, x4, x5] (.int 1 :: st) σ ρ g τ Q := aw_lc m142 d142_60 rfl rfl rfl
theorem d142_61 : decode cX11_takings 61 = .ok (.iload 4, 2) := by decide +kernel
theorem s142_61 {d : Nat} {st : List Value} {σ : am_I} {ρ : am_R} {g : am_J} {τ : am_T} {Q : am_Q} {x0 x1 x2 x3 x5 : Value} {v : Int32} : AW d 142 61 [x0, x1, x2, x3, .int v, x5] (st) σ ρ g τ Q = AW d 142 63 [x0, x1, x2, x3, .int v, x5] (.int v :: st) σ ρ g τ Q := aw_lc m142 d142_61 rfl rfl rfl
theorem d142_63 : decode cX11_takings 63 = .ok (.ishl, 1) := by decide +kernel
theorem s142_63 {d : Nat} {st : List Value} {σ : am_I} {ρ : am_R} {g : am_J} {τ : am_T} {Q : am_Q} {x0 x1 x2 x3 x4 x5 : Value} {v w : Int32} : AW d 142 63 [x0, x1, x2, x3, x4, x5] (.int w :: .int v :: st) σ ρ g τ Q = AW d 142 64 [x0, x1, x2, x3, x4, x5] (.int (v <<< (w &&& 31)) :: st) σ ρ g τ Q := aw_lc m142 d142_63 rfl rfl rfl
theorem d142_64 : decode cX11_takings 64 = .ok (.ior, 1) := by decide +kernel
theorem s142_64 {d : Nat} {st : List Value} {σ : am_I} {ρ : am_R} {g : am_J} {τ : am_T} {Q : am_Q} {x0 x1 x2 x3 x4 x5 : Value} {v w : Int32} : AW d 142 64 [x0, x1, x2, x3, x4, x5] (.int w :: .int v :: st) σ ρ g τ Q = AW d 142 65 [x0, x1, x2, x3, x4, x5] (.int (v ||| w) :: st) σ ρ g τ Q := aw_lc m142 d142_64 rfl rfl rfl
theorem d142_65 : decode cX11_takings 65 = .ok (.istore_n 2, 1) := by decide +kernel
theorem s142_65 {d : Nat} {st : List Value} {σ : am_I} {ρ : am_R} {g : am_J} {τ : am_T} {Q : am_Q} {x0 x2 x3 x4 x5 : Value} {v : Int32} {u : Int32} : AW d 142 65 [x0, .int u, x2, x3, x4, x5] (.int v :: st) σ ρ g τ Q = AW d 142 66 [x0, .int u, .int v, x3, x4, x5] (st) σ ρ g τ Q := aw_lc m142 d142_65 rfl rfl rfl
theorem d142_66 : decode cX11_takings 66 = .ok (.iload_n 3, 1) := by decide +kernel
theorem s142_66 {d : Nat} {st : List Value} {σ : am_I} {ρ : am_R} {g : am_J} {τ : am_T} {Q : am_Q} {x0 x1 x2 x4 x5 : Value} {v : Int32} : AW d 142 66 [x0, x1, x2, .int v, x4, x5] (st) σ ρ g τ Q = AW d 142 67 [x0, x1, x2, .int v, x4, x5] (.int v :: st) σ ρ g τ Q := aw_lc m142 d142_66 rfl rfl rfl
theorem d142_67 : decode cX11_takings 67 = .ok (.iload 5, 2) := by decide +kernel
theorem s142_67 {d : Nat} {st : List Value} {σ : am_I} {ρ : am_R} {g : am_J} {τ : am_T} {Q : am_Q} {x0 x1 x2 x3 x4 : Value} {v : Int32} : AW d 142 67 [x0, x1, x2, x3, x4, .int v] (st) σ ρ g τ Q = AW d 142 69 [x0, x1, x2, x3, x4, .int v] (.int v :: st) σ ρ g τ Q := aw_lc m142 d142_67 rfl rfl rfl
theorem d142_69 : decode cX11_takings 69 = .ok (.aload_n 0, 1) := by decide +kernel
theorem s142_69 {d : Nat} {st : List Value} {σ : am_I} {ρ : am_R} {g : am_J} {τ : am_T} {Q : am_Q} {x1 x2 x3 x4 x5 : Value} {v : Nat} : AW d 142 69 [.ref v, x1, x2, x3, x4, x5] (st) σ ρ g τ Q = AW d 142 70 [.ref v, x1, x2, x3, x4, x5] (.ref v :: st) σ ρ g τ Q := aw_lc m142 d142_69 rfl rfl rfl
theorem d142_70 : decode cX11_takings 70 = .ok (.getfield 10, 3) := by decide +kernel
theorem s142_70 {d : Nat} {st : List Value} {σ : am_I} {ρ : am_R} {g : am_J} {τ : am_T} {Q : am_Q} {x0 x1 x2 x3 x4 x5 : Value} {a : Nat} (ht : τ.1 a = 11) : AW d 142 70 [x0, x1, x2, x3, x4, x5] (.ref a :: st) σ ρ g τ Q = AW d 142 73 [x0, x1, x2, x3, x4, x5] (va_rf (ρ a 0) :: st) σ ρ g τ Q := aw_gr m142 d142_70 rfl rfl rfl ht
theorem d142_73 : decode cX11_takings 73 = .ok (.getfield 378, 3) := by decide +kernel
theorem s142_73 {d : Nat} {st : List Value} {σ : am_I} {ρ : am_R} {g : am_J} {τ : am_T} {Q : am_Q} {x0 x1 x2 x3 x4 x5 : Value} {a : Nat} (ht : τ.1 a = 3) : AW d 142 73 [x0, x1, x2, x3, x4, x5] (.ref a :: st) σ ρ g τ Q = AW d 142 76 [x0, x1, x2, x3, x4, x5] (va_rf (ρ a 14) :: st) σ ρ g τ Q := aw_gr m142 d142_73 rfl rfl rfl ht
theorem d142_76 : decode cX11_takings 76 = .ok (.iload 4, 2) := by decide +kernel
theorem s142_76 {d : Nat} {st : List Value} {σ : am_I} {ρ : am_R} {g : am_J} {τ : am_T} {Q : am_Q} {x0 x1 x2 x3 x5 : Value} {v : Int32} : AW d 142 76 [x0, x1, x2, x3, .int v, x5] (st) σ ρ g τ Q = AW d 142 78 [x0, x1, x2, x3, .int v, x5] (.int v :: st) σ ρ g τ Q := aw_lc m142 d142_76 rfl rfl rfl
theorem d142_78 : decode cX11_takings 78 = .ok (.iconst 1, 1) := by decide +kernel
theorem s142_78 {d : Nat} {st : List Value} {σ : am_I} {ρ : am_R} {g : am_J} {τ : am_T} {Q : am_Q} {x0 x1 x2 x3 x4 x5 : Value} : AW d 142 78 [x0, x1, x2, x3, x4, x5] (st) σ ρ g τ Q = AW d 142 79 [x0, x1, x2, x3, x4, x5] (.int 1 :: st) σ ρ g τ Q := aw_lc m142 d142_78 rfl rfl rfl
theorem d142_79 : decode cX11_takings 79 = .ok (.invokevirtual 339, 3) := by decide +kernel
theorem s142_79 {d : Nat} {st : List Value} {σ : am_I} {ρ : am_R} {g : am_J} {τ : am_T} {Q : am_Q} {x0 x1 x2 x3 x4 x5 : Value} {p0 : Nat} {p1 : Int32} {p2 : Int32} (ht : τ.1 p0 = 4) (hs : st.length ≤ 4) : AW (d + 1) 142 79 [x0, x1, x2, x3, x4, x5] (.int p2 :: .int p1 :: .ref p0 :: st) σ ρ g τ Q = AW d 46 0 [.ref p0, .int p1, .int p2] [] σ ρ g τ (fun r9 σ ρ g τ => AW (d + 1) 142 82 [x0, x1, x2, x3, x4, x5] (r9.toList ++ st) σ ρ g τ Q) := aw_cv m142 d142_79 rfl m46 rfl rfl (by decide) en46 ok46 rfl ht hs
theorem d142_82 : decode cX11_takings 82 = .ok (.invokestatic 169, 3) := by decide +kernel
theorem s142_82 {d : Nat} {st : List Value} {σ : am_I} {ρ : am_R} {g : am_J} {τ : am_T} {Q : am_Q} {x0 x1 x2 x3 x4 x5 : Value} {v w : Int32} (hs : st.length ≤ 4) : AW d 142 82 [x0, x1, x2, x3, x4, x5] (.int w :: .int v :: st) σ ρ g τ Q = AW d 142 85 [x0, x1, x2, x3, x4, x5] (.int (if w < v then w else v) :: st) σ ρ g τ Q := aw_min m142 d142_82 rfl rfl hs
theorem d142_85 : decode cX11_takings 85 = .ok (.iadd, 1) := by decide +kernel
theorem s142_85 {d : Nat} {st : List Value} {σ : am_I} {ρ : am_R} {g : am_J} {τ : am_T} {Q : am_Q} {x0 x1 x2 x3 x4 x5 : Value} {v w : Int32} : AW d 142 85 [x0, x1, x2, x3, x4, x5] (.int w :: .int v :: st) σ ρ g τ Q = AW d 142 86 [x0, x1, x2, x3, x4, x5] (.int (v + w) :: st) σ ρ g τ Q := aw_lc m142 d142_85 rfl rfl rfl
theorem d142_86 : decode cX11_takings 86 = .ok (.istore_n 3, 1) := by decide +kernel
theorem s142_86 {d : Nat} {st : List Value} {σ : am_I} {ρ : am_R} {g : am_J} {τ : am_T} {Q : am_Q} {x0 x1 x3 x4 x5 : Value} {v : Int32} {u : Int32} : AW d 142 86 [x0, x1, .int u, x3, x4, x5] (.int v :: st) σ ρ g τ Q = AW d 142 87 [x0, x1, .int u, .int v, x4, x5] (st) σ ρ g τ Q := aw_lc m142 d142_86 rfl rfl rfl
theorem d142_87 : decode cX11_takings 87 = .ok (.iinc 4 1, 3) := by decide +kernel
theorem s142_87 {d : Nat} {st : List Value} {σ : am_I} {ρ : am_R} {g : am_J} {τ : am_T} {Q : am_Q} {x0 x1 x2 x5 : Value} {v : Int32} {u : Int32} : AW d 142 87 [x0, x1, x2, .int u, .int v, x5] (st) σ ρ g τ Q = AW d 142 90 [x0, x1, x2, .int u, .int (v + 1), x5] (st) σ ρ g τ Q := aw_lc m142 d142_87 rfl rfl rfl
theorem d142_90 : decode cX11_takings 90 = .ok (.goto (-72), 3) := by decide +kernel
theorem s142_90 {d : Nat} {st : List Value} {σ : am_I} {ρ : am_R} {g : am_J} {τ : am_T} {Q : am_Q} {x0 x1 x2 x3 x4 x5 : Value} : AW d 142 90 [x0, x1, x2, x3, x4, x5] (st) σ ρ g τ Q = AW d 142 18 [x0, x1, x2, x3, x4, x5] (st) σ ρ g τ Q := aw_lc m142 d142_90 rfl rfl rfl
theorem d142_93 : decode cX11_takings 93 = .ok (.iload_n 1, 1) := by decide +kernel
theorem s142_93 {d : Nat} {st : List Value} {σ : am_I} {ρ : am_R} {g : am_J} {τ : am_T} {Q : am_Q} {x0 x2 x3 x4 x5 : Value} {v : Int32} : AW d 142 93 [x0, .int v, x2, x3, x4, x5] (st) σ ρ g τ Q = AW d 142 94 [x0, .int v, x2, x3, x4, x5] (.int v :: st) σ ρ g τ Q := aw_lc m142 d142_93 rfl rfl rfl
theorem d142_94 : decode cX11_takings 94 = .ok (.ifCond .ne 7, 3) := by decide +kernel
theorem s142_94 {d : Nat} {st : List Value} {σ : am_I} {ρ : am_R} {g : am_J} {τ : am_T} {Q : am_Q} {x0 x1 x2 x3 x4 x5 : Value} {v : Int32} : AW d 142 94 [x0, x1, x2, x3, x4, x5] (.int v :: st) σ ρ g τ Q = if ¬ v = 0 then AW d 142 101 [x0, x1, x2, x3, x4, x5] (st) σ ρ g τ Q else AW d 142 97 [x0, x1, x2, x3, x4, x5] (st) σ ρ g τ Q := aw_br m142 d142_94 rfl rfl rfl
theorem d142_97 : decode cX11_takings 97 = .ok (.iload_n 2, 1) := by decide +kernel
theorem s142_97 {d : Nat} {st : List Value} {σ : am_I} {ρ : am_R} {g : am_J} {τ : am_T} {Q : am_Q} {x0 x1 x3 x4 x5 : Value} {v : Int32} : AW d 142 97 [x0, x1, .int v, x3, x4, x5] (st) σ ρ g τ Q = AW d 142 98 [x0, x1, .int v, x3, x4, x5] (.int v :: st) σ ρ g τ Q := aw_lc m142 d142_97 rfl rfl rfl
theorem d142_98 : decode cX11_takings 98 = .ok (.goto 4, 3) := by decide +kernel
theorem s142_98 {d : Nat} {st : List Value} {σ : am_I} {ρ : am_R} {g : am_J} {τ : am_T} {Q : am_Q} {x0 x1 x2 x3 x4 x5 : Value} : AW d 142 98 [x0, x1, x2, x3, x4, x5] (st) σ ρ g τ Q = AW d 142 102 [x0, x1, x2, x3, x4, x5] (st) σ ρ g τ Q := aw_lc m142 d142_98 rfl rfl rfl
theorem d142_101 : decode cX11_takings 101 = .ok (.iload_n 3, 1) := by decide +kernel
theorem s142_101 {d : Nat} {st : List Value} {σ : am_I} {ρ : am_R} {g : am_J} {τ : am_T} {Q : am_Q} {x0 x1 x2 x4 x5 : Value} {v : Int32} : AW d 142 101 [x0, x1, x2, .int v, x4, x5] (st) σ ρ g τ Q = AW d 142 102 [x0, x1, x2, .int v, x4, x5] (.int v :: st) σ ρ g τ Q := aw_lc m142 d142_101 rfl rfl rfl
theorem d142_102 : decode cX11_takings 102 = .ok (.ireturn, 1) := by decide +kernel
theorem s142_102 {d : Nat} {σ : am_I} {ρ : am_R} {g : am_J} {τ : am_T} {Q : am_Q} {x0 x1 x2 x3 x4 x5 : Value} {v : Int32} : AW d 142 102 [x0, x1, x2, x3, x4, x5] ([.int v]) σ ρ g τ Q = Q (some (.int v)) σ ρ g τ := aw_ri m142 d142_102 rfl
theorem d143_0 : decode cX11_choice 0 = .ok (.iload_n 1, 1) := by decide +kernel
theorem s143_0 {d : Nat} {st : List Value} {σ : am_I} {ρ : am_R} {g : am_J} {τ : am_T} {Q : am_Q} {x0 x2 x3 x4 x5 : Value} {v : Int32} : AW d 143 0 [x0, .int v, x2, x3, x4, x5] (st) σ ρ g τ Q = AW d 143 1 [x0, .int v, x2, x3, x4, x5] (.int v :: st) σ ρ g τ Q := aw_lc m143 d143_0 rfl rfl rfl
theorem d143_1 : decode cX11_choice 1 = .ok (.sipush (-999), 3) := by decide +kernel
theorem s143_1 {d : Nat} {st : List Value} {σ : am_I} {ρ : am_R} {g : am_J} {τ : am_T} {Q : am_Q} {x0 x1 x2 x3 x4 x5 : Value} : AW d 143 1 [x0, x1, x2, x3, x4, x5] (st) σ ρ g τ Q = AW d 143 4 [x0, x1, x2, x3, x4, x5] (.int (-999) :: st) σ ρ g τ Q := aw_lc m143 d143_1 rfl rfl rfl
theorem d143_4 : decode cX11_choice 4 = .ok (.sipush 999, 3) := by decide +kernel
theorem s143_4 {d : Nat} {st : List Value} {σ : am_I} {ρ : am_R} {g : am_J} {τ : am_T} {Q : am_Q} {x0 x1 x2 x3 x4 x5 : Value} : AW d 143 4 [x0, x1, x2, x3, x4, x5] (st) σ ρ g τ Q = AW d 143 7 [x0, x1, x2, x3, x4, x5] (.int 999 :: st) σ ρ g τ Q := aw_lc m143 d143_4 rfl rfl rfl
theorem d143_7 : decode cX11_choice 7 = .ok (.invokestatic 74, 3) := by decide +kernel
theorem s143_7 {d : Nat} {st : List Value} {σ : am_I} {ρ : am_R} {g : am_J} {τ : am_T} {Q : am_Q} {x0 x1 x2 x3 x4 x5 : Value} {p0 : Int32} {p1 : Int32} {p2 : Int32} (hs : st.length ≤ 4) : AW (d + 1) 143 7 [x0, x1, x2, x3, x4, x5] (.int p2 :: .int p1 :: .int p0 :: st) σ ρ g τ Q = AW d 100 0 [.int p0, .int p1, .int p2] [] σ ρ g τ (fun r9 σ ρ g τ => AW (d + 1) 143 10 [x0, x1, x2, x3, x4, x5] (r9.toList ++ st) σ ρ g τ Q) := aw_cs m143 d143_7 rfl (by simp only [List.length_cons]; omega) rfl rfl en100 ok100 rfl hs
theorem d143_10 : decode cX11_choice 10 = .ok (.ifCond .eq 40, 3) := by decide +kernel
theorem s143_10 {d : Nat} {st : List Value} {σ : am_I} {ρ : am_R} {g : am_J} {τ : am_T} {Q : am_Q} {x0 x1 x2 x3 x4 x5 : Value} {v : Int32} : AW d 143 10 [x0, x1, x2, x3, x4, x5] (.int v :: st) σ ρ g τ Q = if v = 0 then AW d 143 50 [x0, x1, x2, x3, x4, x5] (st) σ ρ g τ Q else AW d 143 13 [x0, x1, x2, x3, x4, x5] (st) σ ρ g τ Q := aw_br m143 d143_10 rfl rfl rfl
theorem d143_13 : decode cX11_choice 13 = .ok (.iload_n 2, 1) := by decide +kernel
theorem s143_13 {d : Nat} {st : List Value} {σ : am_I} {ρ : am_R} {g : am_J} {τ : am_T} {Q : am_Q} {x0 x1 x3 x4 x5 : Value} {v : Int32} : AW d 143 13 [x0, x1, .int v, x3, x4, x5] (st) σ ρ g τ Q = AW d 143 14 [x0, x1, .int v, x3, x4, x5] (.int v :: st) σ ρ g τ Q := aw_lc m143 d143_13 rfl rfl rfl
theorem d143_14 : decode cX11_choice 14 = .ok (.sipush (-999), 3) := by decide +kernel
theorem s143_14 {d : Nat} {st : List Value} {σ : am_I} {ρ : am_R} {g : am_J} {τ : am_T} {Q : am_Q} {x0 x1 x2 x3 x4 x5 : Value} : AW d 143 14 [x0, x1, x2, x3, x4, x5] (st) σ ρ g τ Q = AW d 143 17 [x0, x1, x2, x3, x4, x5] (.int (-999) :: st) σ ρ g τ Q := aw_lc m143 d143_14 rfl rfl rfl
theorem d143_17 : decode cX11_choice 17 = .ok (.sipush 999, 3) := by decide +kernel
theorem s143_17 {d : Nat} {st : List Value} {σ : am_I} {ρ : am_R} {g : am_J} {τ : am_T} {Q : am_Q} {x0 x1 x2 x3 x4 x5 : Value} : AW d 143 17 [x0, x1, x2, x3, x4, x5] (st) σ ρ g τ Q = AW d 143 20 [x0, x1, x2, x3, x4, x5] (.int 999 :: st) σ ρ g τ Q := aw_lc m143 d143_17 rfl rfl rfl
theorem d143_20 : decode cX11_choice 20 = .ok (.invokestatic 74, 3) := by decide +kernel
theorem s143_20 {d : Nat} {st : List Value} {σ : am_I} {ρ : am_R} {g : am_J} {τ : am_T} {Q : am_Q} {x0 x1 x2 x3 x4 x5 : Value} {p0 : Int32} {p1 : Int32} {p2 : Int32} (hs : st.length ≤ 4) : AW (d + 1) 143 20 [x0, x1, x2, x3, x4, x5] (.int p2 :: .int p1 :: .int p0 :: st) σ ρ g τ Q = AW d 100 0 [.int p0, .int p1, .int p2] [] σ ρ g τ (fun r9 σ ρ g τ => AW (d + 1) 143 23 [x0, x1, x2, x3, x4, x5] (r9.toList ++ st) σ ρ g τ Q) := aw_cs m143 d143_20 rfl (by simp only [List.length_cons]; omega) rfl rfl en100 ok100 rfl hs
theorem d143_23 : decode cX11_choice 23 = .ok (.ifCond .eq 27, 3) := by decide +kernel
theorem s143_23 {d : Nat} {st : List Value} {σ : am_I} {ρ : am_R} {g : am_J} {τ : am_T} {Q : am_Q} {x0 x1 x2 x3 x4 x5 : Value} {v : Int32} : AW d 143 23 [x0, x1, x2, x3, x4, x5] (.int v :: st) σ ρ g τ Q = if v = 0 then AW d 143 50 [x0, x1, x2, x3, x4, x5] (st) σ ρ g τ Q else AW d 143 26 [x0, x1, x2, x3, x4, x5] (st) σ ρ g τ Q := aw_br m143 d143_23 rfl rfl rfl
theorem d143_26 : decode cX11_choice 26 = .ok (.iload_n 3, 1) := by decide +kernel
theorem s143_26 {d : Nat} {st : List Value} {σ : am_I} {ρ : am_R} {g : am_J} {τ : am_T} {Q : am_Q} {x0 x1 x2 x4 x5 : Value} {v : Int32} : AW d 143 26 [x0, x1, x2, .int v, x4, x5] (st) σ ρ g τ Q = AW d 143 27 [x0, x1, x2, .int v, x4, x5] (.int v :: st) σ ρ g τ Q := aw_lc m143 d143_26 rfl rfl rfl
theorem d143_27 : decode cX11_choice 27 = .ok (.sipush (-999), 3) := by decide +kernel
theorem s143_27 {d : Nat} {st : List Value} {σ : am_I} {ρ : am_R} {g : am_J} {τ : am_T} {Q : am_Q} {x0 x1 x2 x3 x4 x5 : Value} : AW d 143 27 [x0, x1, x2, x3, x4, x5] (st) σ ρ g τ Q = AW d 143 30 [x0, x1, x2, x3, x4, x5] (.int (-999) :: st) σ ρ g τ Q := aw_lc m143 d143_27 rfl rfl rfl
theorem d143_30 : decode cX11_choice 30 = .ok (.sipush 999, 3) := by decide +kernel
theorem s143_30 {d : Nat} {st : List Value} {σ : am_I} {ρ : am_R} {g : am_J} {τ : am_T} {Q : am_Q} {x0 x1 x2 x3 x4 x5 : Value} : AW d 143 30 [x0, x1, x2, x3, x4, x5] (st) σ ρ g τ Q = AW d 143 33 [x0, x1, x2, x3, x4, x5] (.int 999 :: st) σ ρ g τ Q := aw_lc m143 d143_30 rfl rfl rfl
theorem d143_33 : decode cX11_choice 33 = .ok (.invokestatic 74, 3) := by decide +kernel
theorem s143_33 {d : Nat} {st : List Value} {σ : am_I} {ρ : am_R} {g : am_J} {τ : am_T} {Q : am_Q} {x0 x1 x2 x3 x4 x5 : Value} {p0 : Int32} {p1 : Int32} {p2 : Int32} (hs : st.length ≤ 4) : AW (d + 1) 143 33 [x0, x1, x2, x3, x4, x5] (.int p2 :: .int p1 :: .int p0 :: st) σ ρ g τ Q = AW d 100 0 [.int p0, .int p1, .int p2] [] σ ρ g τ (fun r9 σ ρ g τ => AW (d + 1) 143 36 [x0, x1, x2, x3, x4, x5] (r9.toList ++ st) σ ρ g τ Q) := aw_cs m143 d143_33 rfl (by simp only [List.length_cons]; omega) rfl rfl en100 ok100 rfl hs
theorem d143_36 : decode cX11_choice 36 = .ok (.ifCond .eq 14, 3) := by decide +kernel
theorem s143_36 {d : Nat} {st : List Value} {σ : am_I} {ρ : am_R} {g : am_J} {τ : am_T} {Q : am_Q} {x0 x1 x2 x3 x4 x5 : Value} {v : Int32} : AW d 143 36 [x0, x1, x2, x3, x4, x5] (.int v :: st) σ ρ g τ Q = if v = 0 then AW d 143 50 [x0, x1, x2, x3, x4, x5] (st) σ ρ g τ Q else AW d 143 39 [x0, x1, x2, x3, x4, x5] (st) σ ρ g τ Q := aw_br m143 d143_36 rfl rfl rfl
theorem d143_39 : decode cX11_choice 39 = .ok (.iload 4, 2) := by decide +kernel
theorem s143_39 {d : Nat} {st : List Value} {σ : am_I} {ρ : am_R} {g : am_J} {τ : am_T} {Q : am_Q} {x0 x1 x2 x3 x5 : Value} {v : Int32} : AW d 143 39 [x0, x1, x2, x3, .int v, x5] (st) σ ρ g τ Q = AW d 143 41 [x0, x1, x2, x3, .int v, x5] (.int v :: st) σ ρ g τ Q := aw_lc m143 d143_39 rfl rfl rfl
theorem d143_41 : decode cX11_choice 41 = .ok (.iconst 0, 1) := by decide +kernel
theorem s143_41 {d : Nat} {st : List Value} {σ : am_I} {ρ : am_R} {g : am_J} {τ : am_T} {Q : am_Q} {x0 x1 x2 x3 x4 x5 : Value} : AW d 143 41 [x0, x1, x2, x3, x4, x5] (st) σ ρ g τ Q = AW d 143 42 [x0, x1, x2, x3, x4, x5] (.int 0 :: st) σ ρ g τ Q := aw_lc m143 d143_41 rfl rfl rfl
theorem d143_42 : decode cX11_choice 42 = .ok (.bipush 9, 2) := by decide +kernel
theorem s143_42 {d : Nat} {st : List Value} {σ : am_I} {ρ : am_R} {g : am_J} {τ : am_T} {Q : am_Q} {x0 x1 x2 x3 x4 x5 : Value} : AW d 143 42 [x0, x1, x2, x3, x4, x5] (st) σ ρ g τ Q = AW d 143 44 [x0, x1, x2, x3, x4, x5] (.int 9 :: st) σ ρ g τ Q := aw_lc m143 d143_42 rfl rfl rfl
theorem d143_44 : decode cX11_choice 44 = .ok (.invokestatic 74, 3) := by decide +kernel
theorem s143_44 {d : Nat} {st : List Value} {σ : am_I} {ρ : am_R} {g : am_J} {τ : am_T} {Q : am_Q} {x0 x1 x2 x3 x4 x5 : Value} {p0 : Int32} {p1 : Int32} {p2 : Int32} (hs : st.length ≤ 4) : AW (d + 1) 143 44 [x0, x1, x2, x3, x4, x5] (.int p2 :: .int p1 :: .int p0 :: st) σ ρ g τ Q = AW d 100 0 [.int p0, .int p1, .int p2] [] σ ρ g τ (fun r9 σ ρ g τ => AW (d + 1) 143 47 [x0, x1, x2, x3, x4, x5] (r9.toList ++ st) σ ρ g τ Q) := aw_cs m143 d143_44 rfl (by simp only [List.length_cons]; omega) rfl rfl en100 ok100 rfl hs
theorem d143_47 : decode cX11_choice 47 = .ok (.ifCond .ne 5, 3) := by decide +kernel
theorem s143_47 {d : Nat} {st : List Value} {σ : am_I} {ρ : am_R} {g : am_J} {τ : am_T} {Q : am_Q} {x0 x1 x2 x3 x4 x5 : Value} {v : Int32} : AW d 143 47 [x0, x1, x2, x3, x4, x5] (.int v :: st) σ ρ g τ Q = if ¬ v = 0 then AW d 143 52 [x0, x1, x2, x3, x4, x5] (st) σ ρ g τ Q else AW d 143 50 [x0, x1, x2, x3, x4, x5] (st) σ ρ g τ Q := aw_br m143 d143_47 rfl rfl rfl
theorem d143_50 : decode cX11_choice 50 = .ok (.iconst (-1), 1) := by decide +kernel
theorem s143_50 {d : Nat} {st : List Value} {σ : am_I} {ρ : am_R} {g : am_J} {τ : am_T} {Q : am_Q} {x0 x1 x2 x3 x4 x5 : Value} : AW d 143 50 [x0, x1, x2, x3, x4, x5] (st) σ ρ g τ Q = AW d 143 51 [x0, x1, x2, x3, x4, x5] (.int (-1) :: st) σ ρ g τ Q := aw_lc m143 d143_50 rfl rfl rfl
theorem d143_51 : decode cX11_choice 51 = .ok (.ireturn, 1) := by decide +kernel
theorem s143_51 {d : Nat} {σ : am_I} {ρ : am_R} {g : am_J} {τ : am_T} {Q : am_Q} {x0 x1 x2 x3 x4 x5 : Value} {v : Int32} : AW d 143 51 [x0, x1, x2, x3, x4, x5] ([.int v]) σ ρ g τ Q = Q (some (.int v)) σ ρ g τ := aw_ri m143 d143_51 rfl
theorem d143_52 : decode cX11_choice 52 = .ok (.aload_n 0, 1) := by decide +kernel
theorem s143_52 {d : Nat} {st : List Value} {σ : am_I} {ρ : am_R} {g : am_J} {τ : am_T} {Q : am_Q} {x1 x2 x3 x4 x5 : Value} {v : Nat} : AW d 143 52 [.ref v, x1, x2, x3, x4, x5] (st) σ ρ g τ Q = AW d 143 53 [.ref v, x1, x2, x3, x4, x5] (.ref v :: st) σ ρ g τ Q := aw_lc m143 d143_52 rfl rfl rfl
theorem d143_53 : decode cX11_choice 53 = .ok (.getfield 10, 3) := by decide +kernel
theorem s143_53 {d : Nat} {st : List Value} {σ : am_I} {ρ : am_R} {g : am_J} {τ : am_T} {Q : am_Q} {x0 x1 x2 x3 x4 x5 : Value} {a : Nat} (ht : τ.1 a = 11) : AW d 143 53 [x0, x1, x2, x3, x4, x5] (.ref a :: st) σ ρ g τ Q = AW d 143 56 [x0, x1, x2, x3, x4, x5] (va_rf (ρ a 0) :: st) σ ρ g τ Q := aw_gr m143 d143_53 rfl rfl rfl ht
theorem d143_56 : decode cX11_choice 56 = .ok (.getfield 387, 3) := by decide +kernel
theorem s143_56 {d : Nat} {st : List Value} {σ : am_I} {ρ : am_R} {g : am_J} {τ : am_T} {Q : am_Q} {x0 x1 x2 x3 x4 x5 : Value} {a : Nat} (ht : τ.1 a = 3) : AW d 143 56 [x0, x1, x2, x3, x4, x5] (.ref a :: st) σ ρ g τ Q = AW d 143 59 [x0, x1, x2, x3, x4, x5] (va_rf (ρ a 15) :: st) σ ρ g τ Q := aw_gr m143 d143_56 rfl rfl rfl ht
theorem d143_59 : decode cX11_choice 59 = .ok (.invokevirtual 326, 3) := by decide +kernel
theorem s143_59 {d : Nat} {st : List Value} {σ : am_I} {ρ : am_R} {g : am_J} {τ : am_T} {Q : am_Q} {x0 x1 x2 x3 x4 x5 : Value} {p0 : Nat} (ht : τ.1 p0 = 4) (hs : st.length ≤ 4) : AW (d + 1) 143 59 [x0, x1, x2, x3, x4, x5] (.ref p0 :: st) σ ρ g τ Q = AW d 43 0 [.ref p0] [] σ ρ g τ (fun r9 σ ρ g τ => AW (d + 1) 143 62 [x0, x1, x2, x3, x4, x5] (r9.toList ++ st) σ ρ g τ Q) := aw_cv m143 d143_59 rfl m43 rfl rfl (by decide) en43 ok43 rfl ht hs
theorem d143_62 : decode cX11_choice 62 = .ok (.ifCond .eq 6, 3) := by decide +kernel
theorem s143_62 {d : Nat} {st : List Value} {σ : am_I} {ρ : am_R} {g : am_J} {τ : am_T} {Q : am_Q} {x0 x1 x2 x3 x4 x5 : Value} {v : Int32} : AW d 143 62 [x0, x1, x2, x3, x4, x5] (.int v :: st) σ ρ g τ Q = if v = 0 then AW d 143 68 [x0, x1, x2, x3, x4, x5] (st) σ ρ g τ Q else AW d 143 65 [x0, x1, x2, x3, x4, x5] (st) σ ρ g τ Q := aw_br m143 d143_62 rfl rfl rfl
theorem d143_65 : decode cX11_choice 65 = .ok (.bipush (-2), 2) := by decide +kernel
theorem s143_65 {d : Nat} {st : List Value} {σ : am_I} {ρ : am_R} {g : am_J} {τ : am_T} {Q : am_Q} {x0 x1 x2 x3 x4 x5 : Value} : AW d 143 65 [x0, x1, x2, x3, x4, x5] (st) σ ρ g τ Q = AW d 143 67 [x0, x1, x2, x3, x4, x5] (.int (-2) :: st) σ ρ g τ Q := aw_lc m143 d143_65 rfl rfl rfl
theorem d143_67 : decode cX11_choice 67 = .ok (.ireturn, 1) := by decide +kernel
theorem s143_67 {d : Nat} {σ : am_I} {ρ : am_R} {g : am_J} {τ : am_T} {Q : am_Q} {x0 x1 x2 x3 x4 x5 : Value} {v : Int32} : AW d 143 67 [x0, x1, x2, x3, x4, x5] ([.int v]) σ ρ g τ Q = Q (some (.int v)) σ ρ g τ := aw_ri m143 d143_67 rfl
theorem d143_68 : decode cX11_choice 68 = .ok (.aload_n 0, 1) := by decide +kernel
theorem s143_68 {d : Nat} {st : List Value} {σ : am_I} {ρ : am_R} {g : am_J} {τ : am_T} {Q : am_Q} {x1 x2 x3 x4 x5 : Value} {v : Nat} : AW d 143 68 [.ref v, x1, x2, x3, x4, x5] (st) σ ρ g τ Q = AW d 143 69 [.ref v, x1, x2, x3, x4, x5] (.ref v :: st) σ ρ g τ Q := aw_lc m143 d143_68 rfl rfl rfl
theorem d143_69 : decode cX11_choice 69 = .ok (.getfield 10, 3) := by decide +kernel
theorem s143_69 {d : Nat} {st : List Value} {σ : am_I} {ρ : am_R} {g : am_J} {τ : am_T} {Q : am_Q} {x0 x1 x2 x3 x4 x5 : Value} {a : Nat} (ht : τ.1 a = 11) : AW d 143 69 [x0, x1, x2, x3, x4, x5] (.ref a :: st) σ ρ g τ Q = AW d 143 72 [x0, x1, x2, x3, x4, x5] (va_rf (ρ a 0) :: st) σ ρ g τ Q := aw_gr m143 d143_69 rfl rfl rfl ht
theorem d143_72 : decode cX11_choice 72 = .ok (.getfield 387, 3) := by decide +kernel
theorem s143_72 {d : Nat} {st : List Value} {σ : am_I} {ρ : am_R} {g : am_J} {τ : am_T} {Q : am_Q} {x0 x1 x2 x3 x4 x5 : Value} {a : Nat} (ht : τ.1 a = 3) : AW d 143 72 [x0, x1, x2, x3, x4, x5] (.ref a :: st) σ ρ g τ Q = AW d 143 75 [x0, x1, x2, x3, x4, x5] (va_rf (ρ a 15) :: st) σ ρ g τ Q := aw_gr m143 d143_72 rfl rfl rfl ht
theorem d143_75 : decode cX11_choice 75 = .ok (.invokevirtual 329, 3) := by decide +kernel
theorem s143_75 {d : Nat} {st : List Value} {σ : am_I} {ρ : am_R} {g : am_J} {τ : am_T} {Q : am_Q} {x0 x1 x2 x3 x4 x5 : Value} {p0 : Nat} (ht : τ.1 p0 = 4) (hs : st.length ≤ 4) : AW (d + 1) 143 75 [x0, x1, x2, x3, x4, x5] (.ref p0 :: st) σ ρ g τ Q = AW d 45 0 [.ref p0] [] σ ρ g τ (fun r9 σ ρ g τ => AW (d + 1) 143 78 [x0, x1, x2, x3, x4, x5] (r9.toList ++ st) σ ρ g τ Q) := aw_cv m143 d143_75 rfl m45 rfl rfl (by decide) en45 ok45 rfl ht hs
theorem d143_78 : decode cX11_choice 78 = .ok (.istore 5, 2) := by decide +kernel
theorem s143_78 {d : Nat} {st : List Value} {σ : am_I} {ρ : am_R} {g : am_J} {τ : am_T} {Q : am_Q} {x0 x1 x2 x3 x5 : Value} {v : Int32} {u : Int32} : AW d 143 78 [x0, x1, x2, x3, .int u, x5] (.int v :: st) σ ρ g τ Q = AW d 143 80 [x0, x1, x2, x3, .int u, .int v] (st) σ ρ g τ Q := aw_lc m143 d143_78 rfl rfl rfl
theorem d143_80 : decode cX11_choice 80 = .ok (.aload_n 0, 1) := by decide +kernel
theorem s143_80 {d : Nat} {st : List Value} {σ : am_I} {ρ : am_R} {g : am_J} {τ : am_T} {Q : am_Q} {x1 x2 x3 x4 x5 : Value} {v : Nat} : AW d 143 80 [.ref v, x1, x2, x3, x4, x5] (st) σ ρ g τ Q = AW d 143 81 [.ref v, x1, x2, x3, x4, x5] (.ref v :: st) σ ρ g τ Q := aw_lc m143 d143_80 rfl rfl rfl
theorem d143_81 : decode cX11_choice 81 = .ok (.getfield 10, 3) := by decide +kernel
theorem s143_81 {d : Nat} {st : List Value} {σ : am_I} {ρ : am_R} {g : am_J} {τ : am_T} {Q : am_Q} {x0 x1 x2 x3 x4 x5 : Value} {a : Nat} (ht : τ.1 a = 11) : AW d 143 81 [x0, x1, x2, x3, x4, x5] (.ref a :: st) σ ρ g τ Q = AW d 143 84 [x0, x1, x2, x3, x4, x5] (va_rf (ρ a 0) :: st) σ ρ g τ Q := aw_gr m143 d143_81 rfl rfl rfl ht
theorem d143_84 : decode cX11_choice 84 = .ok (.getfield 387, 3) := by decide +kernel
theorem s143_84 {d : Nat} {st : List Value} {σ : am_I} {ρ : am_R} {g : am_J} {τ : am_T} {Q : am_Q} {x0 x1 x2 x3 x4 x5 : Value} {a : Nat} (ht : τ.1 a = 3) : AW d 143 84 [x0, x1, x2, x3, x4, x5] (.ref a :: st) σ ρ g τ Q = AW d 143 87 [x0, x1, x2, x3, x4, x5] (va_rf (ρ a 15) :: st) σ ρ g τ Q := aw_gr m143 d143_84 rfl rfl rfl ht
theorem d143_87 : decode cX11_choice 87 = .ok (.iload 5, 2) := by decide +kernel
theorem s143_87 {d : Nat} {st : List Value} {σ : am_I} {ρ : am_R} {g : am_J} {τ : am_T} {Q : am_Q} {x0 x1 x2 x3 x4 : Value} {v : Int32} : AW d 143 87 [x0, x1, x2, x3, x4, .int v] (st) σ ρ g τ Q = AW d 143 89 [x0, x1, x2, x3, x4, .int v] (.int v :: st) σ ρ g τ Q := aw_lc m143 d143_87 rfl rfl rfl
theorem d143_89 : decode cX11_choice 89 = .ok (.iconst 0, 1) := by decide +kernel
theorem s143_89 {d : Nat} {st : List Value} {σ : am_I} {ρ : am_R} {g : am_J} {τ : am_T} {Q : am_Q} {x0 x1 x2 x3 x4 x5 : Value} : AW d 143 89 [x0, x1, x2, x3, x4, x5] (st) σ ρ g τ Q = AW d 143 90 [x0, x1, x2, x3, x4, x5] (.int 0 :: st) σ ρ g τ Q := aw_lc m143 d143_89 rfl rfl rfl
theorem d143_90 : decode cX11_choice 90 = .ok (.iload_n 1, 1) := by decide +kernel
theorem s143_90 {d : Nat} {st : List Value} {σ : am_I} {ρ : am_R} {g : am_J} {τ : am_T} {Q : am_Q} {x0 x2 x3 x4 x5 : Value} {v : Int32} : AW d 143 90 [x0, .int v, x2, x3, x4, x5] (st) σ ρ g τ Q = AW d 143 91 [x0, .int v, x2, x3, x4, x5] (.int v :: st) σ ρ g τ Q := aw_lc m143 d143_90 rfl rfl rfl
theorem d143_91 : decode cX11_choice 91 = .ok (.invokevirtual 332, 3) := by decide +kernel
theorem s143_91 {d : Nat} {st : List Value} {σ : am_I} {ρ : am_R} {g : am_J} {τ : am_T} {Q : am_Q} {x0 x1 x2 x3 x4 x5 : Value} {p0 : Nat} {p1 : Int32} {p2 : Int32} {p3 : Int32} (ht : τ.1 p0 = 4) (hs : st.length ≤ 4) : AW (d + 1) 143 91 [x0, x1, x2, x3, x4, x5] (.int p3 :: .int p2 :: .int p1 :: .ref p0 :: st) σ ρ g τ Q = AW d 47 0 [.ref p0, .int p1, .int p2, .int p3] [] σ ρ g τ (fun r9 σ ρ g τ => AW (d + 1) 143 94 [x0, x1, x2, x3, x4, x5] (r9.toList ++ st) σ ρ g τ Q) := aw_cv m143 d143_91 rfl m47 rfl rfl (by decide) en47 ok47 rfl ht hs
theorem d143_94 : decode cX11_choice 94 = .ok (.aload_n 0, 1) := by decide +kernel
theorem s143_94 {d : Nat} {st : List Value} {σ : am_I} {ρ : am_R} {g : am_J} {τ : am_T} {Q : am_Q} {x1 x2 x3 x4 x5 : Value} {v : Nat} : AW d 143 94 [.ref v, x1, x2, x3, x4, x5] (st) σ ρ g τ Q = AW d 143 95 [.ref v, x1, x2, x3, x4, x5] (.ref v :: st) σ ρ g τ Q := aw_lc m143 d143_94 rfl rfl rfl
theorem d143_95 : decode cX11_choice 95 = .ok (.getfield 10, 3) := by decide +kernel
theorem s143_95 {d : Nat} {st : List Value} {σ : am_I} {ρ : am_R} {g : am_J} {τ : am_T} {Q : am_Q} {x0 x1 x2 x3 x4 x5 : Value} {a : Nat} (ht : τ.1 a = 11) : AW d 143 95 [x0, x1, x2, x3, x4, x5] (.ref a :: st) σ ρ g τ Q = AW d 143 98 [x0, x1, x2, x3, x4, x5] (va_rf (ρ a 0) :: st) σ ρ g τ Q := aw_gr m143 d143_95 rfl rfl rfl ht
theorem d143_98 : decode cX11_choice 98 = .ok (.getfield 387, 3) := by decide +kernel
theorem s143_98 {d : Nat} {st : List Value} {σ : am_I} {ρ : am_R} {g : am_J} {τ : am_T} {Q : am_Q} {x0 x1 x2 x3 x4 x5 : Value} {a : Nat} (ht : τ.1 a = 3) : AW d 143 98 [x0, x1, x2, x3, x4, x5] (.ref a :: st) σ ρ g τ Q = AW d 143 101 [x0, x1, x2, x3, x4, x5] (va_rf (ρ a 15) :: st) σ ρ g τ Q := aw_gr m143 d143_98 rfl rfl rfl ht
theorem d143_101 : decode cX11_choice 101 = .ok (.iload 5, 2) := by decide +kernel
theorem s143_101 {d : Nat} {st : List Value} {σ : am_I} {ρ : am_R} {g : am_J} {τ : am_T} {Q : am_Q} {x0 x1 x2 x3 x4 : Value} {v : Int32} : AW d 143 101 [x0, x1, x2, x3, x4, .int v] (st) σ ρ g τ Q = AW d 143 103 [x0, x1, x2, x3, x4, .int v] (.int v :: st) σ ρ g τ Q := aw_lc m143 d143_101 rfl rfl rfl
theorem d143_103 : decode cX11_choice 103 = .ok (.iconst 1, 1) := by decide +kernel
theorem s143_103 {d : Nat} {st : List Value} {σ : am_I} {ρ : am_R} {g : am_J} {τ : am_T} {Q : am_Q} {x0 x1 x2 x3 x4 x5 : Value} : AW d 143 103 [x0, x1, x2, x3, x4, x5] (st) σ ρ g τ Q = AW d 143 104 [x0, x1, x2, x3, x4, x5] (.int 1 :: st) σ ρ g τ Q := aw_lc m143 d143_103 rfl rfl rfl
theorem d143_104 : decode cX11_choice 104 = .ok (.iload_n 2, 1) := by decide +kernel
theorem s143_104 {d : Nat} {st : List Value} {σ : am_I} {ρ : am_R} {g : am_J} {τ : am_T} {Q : am_Q} {x0 x1 x3 x4 x5 : Value} {v : Int32} : AW d 143 104 [x0, x1, .int v, x3, x4, x5] (st) σ ρ g τ Q = AW d 143 105 [x0, x1, .int v, x3, x4, x5] (.int v :: st) σ ρ g τ Q := aw_lc m143 d143_104 rfl rfl rfl
theorem d143_105 : decode cX11_choice 105 = .ok (.invokevirtual 332, 3) := by decide +kernel
theorem s143_105 {d : Nat} {st : List Value} {σ : am_I} {ρ : am_R} {g : am_J} {τ : am_T} {Q : am_Q} {x0 x1 x2 x3 x4 x5 : Value} {p0 : Nat} {p1 : Int32} {p2 : Int32} {p3 : Int32} (ht : τ.1 p0 = 4) (hs : st.length ≤ 4) : AW (d + 1) 143 105 [x0, x1, x2, x3, x4, x5] (.int p3 :: .int p2 :: .int p1 :: .ref p0 :: st) σ ρ g τ Q = AW d 47 0 [.ref p0, .int p1, .int p2, .int p3] [] σ ρ g τ (fun r9 σ ρ g τ => AW (d + 1) 143 108 [x0, x1, x2, x3, x4, x5] (r9.toList ++ st) σ ρ g τ Q) := aw_cv m143 d143_105 rfl m47 rfl rfl (by decide) en47 ok47 rfl ht hs
theorem d143_108 : decode cX11_choice 108 = .ok (.aload_n 0, 1) := by decide +kernel
theorem s143_108 {d : Nat} {st : List Value} {σ : am_I} {ρ : am_R} {g : am_J} {τ : am_T} {Q : am_Q} {x1 x2 x3 x4 x5 : Value} {v : Nat} : AW d 143 108 [.ref v, x1, x2, x3, x4, x5] (st) σ ρ g τ Q = AW d 143 109 [.ref v, x1, x2, x3, x4, x5] (.ref v :: st) σ ρ g τ Q := aw_lc m143 d143_108 rfl rfl rfl
theorem d143_109 : decode cX11_choice 109 = .ok (.getfield 10, 3) := by decide +kernel
theorem s143_109 {d : Nat} {st : List Value} {σ : am_I} {ρ : am_R} {g : am_J} {τ : am_T} {Q : am_Q} {x0 x1 x2 x3 x4 x5 : Value} {a : Nat} (ht : τ.1 a = 11) : AW d 143 109 [x0, x1, x2, x3, x4, x5] (.ref a :: st) σ ρ g τ Q = AW d 143 112 [x0, x1, x2, x3, x4, x5] (va_rf (ρ a 0) :: st) σ ρ g τ Q := aw_gr m143 d143_109 rfl rfl rfl ht
theorem d143_112 : decode cX11_choice 112 = .ok (.getfield 387, 3) := by decide +kernel
theorem s143_112 {d : Nat} {st : List Value} {σ : am_I} {ρ : am_R} {g : am_J} {τ : am_T} {Q : am_Q} {x0 x1 x2 x3 x4 x5 : Value} {a : Nat} (ht : τ.1 a = 3) : AW d 143 112 [x0, x1, x2, x3, x4, x5] (.ref a :: st) σ ρ g τ Q = AW d 143 115 [x0, x1, x2, x3, x4, x5] (va_rf (ρ a 15) :: st) σ ρ g τ Q := aw_gr m143 d143_112 rfl rfl rfl ht
theorem d143_115 : decode cX11_choice 115 = .ok (.iload 5, 2) := by decide +kernel
theorem s143_115 {d : Nat} {st : List Value} {σ : am_I} {ρ : am_R} {g : am_J} {τ : am_T} {Q : am_Q} {x0 x1 x2 x3 x4 : Value} {v : Int32} : AW d 143 115 [x0, x1, x2, x3, x4, .int v] (st) σ ρ g τ Q = AW d 143 117 [x0, x1, x2, x3, x4, .int v] (.int v :: st) σ ρ g τ Q := aw_lc m143 d143_115 rfl rfl rfl
theorem d143_117 : decode cX11_choice 117 = .ok (.iconst 2, 1) := by decide +kernel
theorem s143_117 {d : Nat} {st : List Value} {σ : am_I} {ρ : am_R} {g : am_J} {τ : am_T} {Q : am_Q} {x0 x1 x2 x3 x4 x5 : Value} : AW d 143 117 [x0, x1, x2, x3, x4, x5] (st) σ ρ g τ Q = AW d 143 118 [x0, x1, x2, x3, x4, x5] (.int 2 :: st) σ ρ g τ Q := aw_lc m143 d143_117 rfl rfl rfl
theorem d143_118 : decode cX11_choice 118 = .ok (.iload_n 3, 1) := by decide +kernel
theorem s143_118 {d : Nat} {st : List Value} {σ : am_I} {ρ : am_R} {g : am_J} {τ : am_T} {Q : am_Q} {x0 x1 x2 x4 x5 : Value} {v : Int32} : AW d 143 118 [x0, x1, x2, .int v, x4, x5] (st) σ ρ g τ Q = AW d 143 119 [x0, x1, x2, .int v, x4, x5] (.int v :: st) σ ρ g τ Q := aw_lc m143 d143_118 rfl rfl rfl
theorem d143_119 : decode cX11_choice 119 = .ok (.invokevirtual 332, 3) := by decide +kernel
theorem s143_119 {d : Nat} {st : List Value} {σ : am_I} {ρ : am_R} {g : am_J} {τ : am_T} {Q : am_Q} {x0 x1 x2 x3 x4 x5 : Value} {p0 : Nat} {p1 : Int32} {p2 : Int32} {p3 : Int32} (ht : τ.1 p0 = 4) (hs : st.length ≤ 4) : AW (d + 1) 143 119 [x0, x1, x2, x3, x4, x5] (.int p3 :: .int p2 :: .int p1 :: .ref p0 :: st) σ ρ g τ Q = AW d 47 0 [.ref p0, .int p1, .int p2, .int p3] [] σ ρ g τ (fun r9 σ ρ g τ => AW (d + 1) 143 122 [x0, x1, x2, x3, x4, x5] (r9.toList ++ st) σ ρ g τ Q) := aw_cv m143 d143_119 rfl m47 rfl rfl (by decide) en47 ok47 rfl ht hs
theorem d143_122 : decode cX11_choice 122 = .ok (.aload_n 0, 1) := by decide +kernel
theorem s143_122 {d : Nat} {st : List Value} {σ : am_I} {ρ : am_R} {g : am_J} {τ : am_T} {Q : am_Q} {x1 x2 x3 x4 x5 : Value} {v : Nat} : AW d 143 122 [.ref v, x1, x2, x3, x4, x5] (st) σ ρ g τ Q = AW d 143 123 [.ref v, x1, x2, x3, x4, x5] (.ref v :: st) σ ρ g τ Q := aw_lc m143 d143_122 rfl rfl rfl
theorem d143_123 : decode cX11_choice 123 = .ok (.getfield 10, 3) := by decide +kernel
theorem s143_123 {d : Nat} {st : List Value} {σ : am_I} {ρ : am_R} {g : am_J} {τ : am_T} {Q : am_Q} {x0 x1 x2 x3 x4 x5 : Value} {a : Nat} (ht : τ.1 a = 11) : AW d 143 123 [x0, x1, x2, x3, x4, x5] (.ref a :: st) σ ρ g τ Q = AW d 143 126 [x0, x1, x2, x3, x4, x5] (va_rf (ρ a 0) :: st) σ ρ g τ Q := aw_gr m143 d143_123 rfl rfl rfl ht
theorem d143_126 : decode cX11_choice 126 = .ok (.getfield 387, 3) := by decide +kernel
theorem s143_126 {d : Nat} {st : List Value} {σ : am_I} {ρ : am_R} {g : am_J} {τ : am_T} {Q : am_Q} {x0 x1 x2 x3 x4 x5 : Value} {a : Nat} (ht : τ.1 a = 3) : AW d 143 126 [x0, x1, x2, x3, x4, x5] (.ref a :: st) σ ρ g τ Q = AW d 143 129 [x0, x1, x2, x3, x4, x5] (va_rf (ρ a 15) :: st) σ ρ g τ Q := aw_gr m143 d143_126 rfl rfl rfl ht
theorem d143_129 : decode cX11_choice 129 = .ok (.iload 5, 2) := by decide +kernel
theorem s143_129 {d : Nat} {st : List Value} {σ : am_I} {ρ : am_R} {g : am_J} {τ : am_T} {Q : am_Q} {x0 x1 x2 x3 x4 : Value} {v : Int32} : AW d 143 129 [x0, x1, x2, x3, x4, .int v] (st) σ ρ g τ Q = AW d 143 131 [x0, x1, x2, x3, x4, .int v] (.int v :: st) σ ρ g τ Q := aw_lc m143 d143_129 rfl rfl rfl
theorem d143_131 : decode cX11_choice 131 = .ok (.iconst 3, 1) := by decide +kernel
theorem s143_131 {d : Nat} {st : List Value} {σ : am_I} {ρ : am_R} {g : am_J} {τ : am_T} {Q : am_Q} {x0 x1 x2 x3 x4 x5 : Value} : AW d 143 131 [x0, x1, x2, x3, x4, x5] (st) σ ρ g τ Q = AW d 143 132 [x0, x1, x2, x3, x4, x5] (.int 3 :: st) σ ρ g τ Q := aw_lc m143 d143_131 rfl rfl rfl
theorem d143_132 : decode cX11_choice 132 = .ok (.iload 4, 2) := by decide +kernel
theorem s143_132 {d : Nat} {st : List Value} {σ : am_I} {ρ : am_R} {g : am_J} {τ : am_T} {Q : am_Q} {x0 x1 x2 x3 x5 : Value} {v : Int32} : AW d 143 132 [x0, x1, x2, x3, .int v, x5] (st) σ ρ g τ Q = AW d 143 134 [x0, x1, x2, x3, .int v, x5] (.int v :: st) σ ρ g τ Q := aw_lc m143 d143_132 rfl rfl rfl
theorem d143_134 : decode cX11_choice 134 = .ok (.invokevirtual 332, 3) := by decide +kernel
theorem s143_134 {d : Nat} {st : List Value} {σ : am_I} {ρ : am_R} {g : am_J} {τ : am_T} {Q : am_Q} {x0 x1 x2 x3 x4 x5 : Value} {p0 : Nat} {p1 : Int32} {p2 : Int32} {p3 : Int32} (ht : τ.1 p0 = 4) (hs : st.length ≤ 4) : AW (d + 1) 143 134 [x0, x1, x2, x3, x4, x5] (.int p3 :: .int p2 :: .int p1 :: .ref p0 :: st) σ ρ g τ Q = AW d 47 0 [.ref p0, .int p1, .int p2, .int p3] [] σ ρ g τ (fun r9 σ ρ g τ => AW (d + 1) 143 137 [x0, x1, x2, x3, x4, x5] (r9.toList ++ st) σ ρ g τ Q) := aw_cv m143 d143_134 rfl m47 rfl rfl (by decide) en47 ok47 rfl ht hs
theorem d143_137 : decode cX11_choice 137 = .ok (.iload 5, 2) := by decide +kernel
theorem s143_137 {d : Nat} {st : List Value} {σ : am_I} {ρ : am_R} {g : am_J} {τ : am_T} {Q : am_Q} {x0 x1 x2 x3 x4 : Value} {v : Int32} : AW d 143 137 [x0, x1, x2, x3, x4, .int v] (st) σ ρ g τ Q = AW d 143 139 [x0, x1, x2, x3, x4, .int v] (.int v :: st) σ ρ g τ Q := aw_lc m143 d143_137 rfl rfl rfl
theorem d143_139 : decode cX11_choice 139 = .ok (.ireturn, 1) := by decide +kernel
theorem s143_139 {d : Nat} {σ : am_I} {ρ : am_R} {g : am_J} {τ : am_T} {Q : am_Q} {x0 x1 x2 x3 x4 x5 : Value} {v : Int32} : AW d 143 139 [x0, x1, x2, x3, x4, x5] ([.int v]) σ ρ g τ Q = Q (some (.int v)) σ ρ g τ := aw_ri m143 d143_139 rfl
theorem d144_0 : decode cX11_choose 0 = .ok (.iload_n 1, 1) := by decide +kernel
theorem s144_0 {d : Nat} {st : List Value} {σ : am_I} {ρ : am_R} {g : am_J} {τ : am_T} {Q : am_Q} {x0 x2 x3 x4 x5 x6 x7 : Value} {v : Int32} : AW d 144 0 [x0, .int v, x2, x3, x4, x5, x6, x7] (st) σ ρ g τ Q = AW d 144 1 [x0, .int v, x2, x3, x4, x5, x6, x7] (.int v :: st) σ ρ g τ Q := aw_lc m144 d144_0 rfl rfl rfl
theorem d144_1 : decode cX11_choose 1 = .ok (.iconst 0, 1) := by decide +kernel
theorem s144_1 {d : Nat} {st : List Value} {σ : am_I} {ρ : am_R} {g : am_J} {τ : am_T} {Q : am_Q} {x0 x1 x2 x3 x4 x5 x6 x7 : Value} : AW d 144 1 [x0, x1, x2, x3, x4, x5, x6, x7] (st) σ ρ g τ Q = AW d 144 2 [x0, x1, x2, x3, x4, x5, x6, x7] (.int 0 :: st) σ ρ g τ Q := aw_lc m144 d144_1 rfl rfl rfl
theorem d144_2 : decode cX11_choose 2 = .ok (.sipush 9999, 3) := by decide +kernel
theorem s144_2 {d : Nat} {st : List Value} {σ : am_I} {ρ : am_R} {g : am_J} {τ : am_T} {Q : am_Q} {x0 x1 x2 x3 x4 x5 x6 x7 : Value} : AW d 144 2 [x0, x1, x2, x3, x4, x5, x6, x7] (st) σ ρ g τ Q = AW d 144 5 [x0, x1, x2, x3, x4, x5, x6, x7] (.int 9999 :: st) σ ρ g τ Q := aw_lc m144 d144_2 rfl rfl rfl
theorem d144_5 : decode cX11_choose 5 = .ok (.invokestatic 74, 3) := by decide +kernel
theorem s144_5 {d : Nat} {st : List Value} {σ : am_I} {ρ : am_R} {g : am_J} {τ : am_T} {Q : am_Q} {x0 x1 x2 x3 x4 x5 x6 x7 : Value} {p0 : Int32} {p1 : Int32} {p2 : Int32} (hs : st.length ≤ 4) : AW (d + 1) 144 5 [x0, x1, x2, x3, x4, x5, x6, x7] (.int p2 :: .int p1 :: .int p0 :: st) σ ρ g τ Q = AW d 100 0 [.int p0, .int p1, .int p2] [] σ ρ g τ (fun r9 σ ρ g τ => AW (d + 1) 144 8 [x0, x1, x2, x3, x4, x5, x6, x7] (r9.toList ++ st) σ ρ g τ Q) := aw_cs m144 d144_5 rfl (by simp only [List.length_cons]; omega) rfl rfl en100 ok100 rfl hs
theorem d144_8 : decode cX11_choose 8 = .ok (.ifCond .ne 5, 3) := by decide +kernel
theorem s144_8 {d : Nat} {st : List Value} {σ : am_I} {ρ : am_R} {g : am_J} {τ : am_T} {Q : am_Q} {x0 x1 x2 x3 x4 x5 x6 x7 : Value} {v : Int32} : AW d 144 8 [x0, x1, x2, x3, x4, x5, x6, x7] (.int v :: st) σ ρ g τ Q = if ¬ v = 0 then AW d 144 13 [x0, x1, x2, x3, x4, x5, x6, x7] (st) σ ρ g τ Q else AW d 144 11 [x0, x1, x2, x3, x4, x5, x6, x7] (st) σ ρ g τ Q := aw_br m144 d144_8 rfl rfl rfl
theorem d144_11 : decode cX11_choose 11 = .ok (.iconst (-1), 1) := by decide +kernel
theorem s144_11 {d : Nat} {st : List Value} {σ : am_I} {ρ : am_R} {g : am_J} {τ : am_T} {Q : am_Q} {x0 x1 x2 x3 x4 x5 x6 x7 : Value} : AW d 144 11 [x0, x1, x2, x3, x4, x5, x6, x7] (st) σ ρ g τ Q = AW d 144 12 [x0, x1, x2, x3, x4, x5, x6, x7] (.int (-1) :: st) σ ρ g τ Q := aw_lc m144 d144_11 rfl rfl rfl
theorem d144_12 : decode cX11_choose 12 = .ok (.ireturn, 1) := by decide +kernel
theorem s144_12 {d : Nat} {σ : am_I} {ρ : am_R} {g : am_J} {τ : am_T} {Q : am_Q} {x0 x1 x2 x3 x4 x5 x6 x7 : Value} {v : Int32} : AW d 144 12 [x0, x1, x2, x3, x4, x5, x6, x7] ([.int v]) σ ρ g τ Q = Q (some (.int v)) σ ρ g τ := aw_ri m144 d144_12 rfl
theorem d144_13 : decode cX11_choose 13 = .ok (.bipush (-3), 2) := by decide +kernel
theorem s144_13 {d : Nat} {st : List Value} {σ : am_I} {ρ : am_R} {g : am_J} {τ : am_T} {Q : am_Q} {x0 x1 x2 x3 x4 x5 x6 x7 : Value} : AW d 144 13 [x0, x1, x2, x3, x4, x5, x6, x7] (st) σ ρ g τ Q = AW d 144 15 [x0, x1, x2, x3, x4, x5, x6, x7] (.int (-3) :: st) σ ρ g τ Q := aw_lc m144 d144_13 rfl rfl rfl
theorem d144_15 : decode cX11_choose 15 = .ok (.istore_n 2, 1) := by decide +kernel
theorem s144_15 {d : Nat} {st : List Value} {σ : am_I} {ρ : am_R} {g : am_J} {τ : am_T} {Q : am_Q} {x0 x2 x3 x4 x5 x6 x7 : Value} {v : Int32} {u : Int32} : AW d 144 15 [x0, .int u, x2, x3, x4, x5, x6, x7] (.int v :: st) σ ρ g τ Q = AW d 144 16 [x0, .int u, .int v, x3, x4, x5, x6, x7] (st) σ ρ g τ Q := aw_lc m144 d144_15 rfl rfl rfl
theorem d144_16 : decode cX11_choose 16 = .ok (.iconst 0, 1) := by decide +kernel
theorem s144_16 {d : Nat} {st : List Value} {σ : am_I} {ρ : am_R} {g : am_J} {τ : am_T} {Q : am_Q} {x0 x1 x2 x3 x4 x5 x6 x7 : Value} : AW d 144 16 [x0, x1, x2, x3, x4, x5, x6, x7] (st) σ ρ g τ Q = AW d 144 17 [x0, x1, x2, x3, x4, x5, x6, x7] (.int 0 :: st) σ ρ g τ Q := aw_lc m144 d144_16 rfl rfl rfl
theorem d144_17 : decode cX11_choose 17 = .ok (.istore_n 3, 1) := by decide +kernel
theorem s144_17 {d : Nat} {st : List Value} {σ : am_I} {ρ : am_R} {g : am_J} {τ : am_T} {Q : am_Q} {x0 x1 x3 x4 x5 x6 x7 : Value} {v : Int32} {u : Int32} : AW d 144 17 [x0, x1, .int u, x3, x4, x5, x6, x7] (.int v :: st) σ ρ g τ Q = AW d 144 18 [x0, x1, .int u, .int v, x4, x5, x6, x7] (st) σ ρ g τ Q := aw_lc m144 d144_17 rfl rfl rfl
theorem d144_18 : decode cX11_choose 18 = .ok (.iconst 0, 1) := by decide +kernel
theorem s144_18 {d : Nat} {st : List Value} {σ : am_I} {ρ : am_R} {g : am_J} {τ : am_T} {Q : am_Q} {x0 x1 x2 x3 x4 x5 x6 x7 : Value} : AW d 144 18 [x0, x1, x2, x3, x4, x5, x6, x7] (st) σ ρ g τ Q = AW d 144 19 [x0, x1, x2, x3, x4, x5, x6, x7] (.int 0 :: st) σ ρ g τ Q := aw_lc m144 d144_18 rfl rfl rfl
theorem d144_19 : decode cX11_choose 19 = .ok (.istore 4, 2) := by decide +kernel
theorem s144_19 {d : Nat} {st : List Value} {σ : am_I} {ρ : am_R} {g : am_J} {τ : am_T} {Q : am_Q} {x0 x1 x2 x4 x5 x6 x7 : Value} {v : Int32} {u : Int32} : AW d 144 19 [x0, x1, x2, .int u, x4, x5, x6, x7] (.int v :: st) σ ρ g τ Q = AW d 144 21 [x0, x1, x2, .int u, .int v, x5, x6, x7] (st) σ ρ g τ Q := aw_lc m144 d144_19 rfl rfl rfl
theorem d144_21 : decode cX11_choose 21 = .ok (.iconst 0, 1) := by decide +kernel
theorem s144_21 {d : Nat} {st : List Value} {σ : am_I} {ρ : am_R} {g : am_J} {τ : am_T} {Q : am_Q} {x0 x1 x2 x3 x4 x5 x6 x7 : Value} : AW d 144 21 [x0, x1, x2, x3, x4, x5, x6, x7] (st) σ ρ g τ Q = AW d 144 22 [x0, x1, x2, x3, x4, x5, x6, x7] (.int 0 :: st) σ ρ g τ Q := aw_lc m144 d144_21 rfl rfl rfl
theorem d144_22 : decode cX11_choose 22 = .ok (.istore 5, 2) := by decide +kernel
theorem s144_22 {d : Nat} {st : List Value} {σ : am_I} {ρ : am_R} {g : am_J} {τ : am_T} {Q : am_Q} {x0 x1 x2 x3 x5 x6 x7 : Value} {v : Int32} {u : Int32} : AW d 144 22 [x0, x1, x2, x3, .int u, x5, x6, x7] (.int v :: st) σ ρ g τ Q = AW d 144 24 [x0, x1, x2, x3, .int u, .int v, x6, x7] (st) σ ρ g τ Q := aw_lc m144 d144_22 rfl rfl rfl
theorem d144_24 : decode cX11_choose 24 = .ok (.iload 5, 2) := by decide +kernel
theorem s144_24 {d : Nat} {st : List Value} {σ : am_I} {ρ : am_R} {g : am_J} {τ : am_T} {Q : am_Q} {x0 x1 x2 x3 x4 x6 x7 : Value} {v : Int32} : AW d 144 24 [x0, x1, x2, x3, x4, .int v, x6, x7] (st) σ ρ g τ Q = AW d 144 26 [x0, x1, x2, x3, x4, .int v, x6, x7] (.int v :: st) σ ρ g τ Q := aw_lc m144 d144_24 rfl rfl rfl
theorem d144_26 : decode cX11_choose 26 = .ok (.iconst 1, 1) := by decide +kernel
theorem s144_26 {d : Nat} {st : List Value} {σ : am_I} {ρ : am_R} {g : am_J} {τ : am_T} {Q : am_Q} {x0 x1 x2 x3 x4 x5 x6 x7 : Value} : AW d 144 26 [x0, x1, x2, x3, x4, x5, x6, x7] (st) σ ρ g τ Q = AW d 144 27 [x0, x1, x2, x3, x4, x5, x6, x7] (.int 1 :: st) σ ρ g τ Q := aw_lc m144 d144_26 rfl rfl rfl
theorem d144_27 : decode cX11_choose 27 = .ok (.aload_n 0, 1) := by decide +kernel
theorem s144_27 {d : Nat} {st : List Value} {σ : am_I} {ρ : am_R} {g : am_J} {τ : am_T} {Q : am_Q} {x1 x2 x3 x4 x5 x6 x7 : Value} {v : Nat} : AW d 144 27 [.ref v, x1, x2, x3, x4, x5, x6, x7] (st) σ ρ g τ Q = AW d 144 28 [.ref v, x1, x2, x3, x4, x5, x6, x7] (.ref v :: st) σ ρ g τ Q := aw_lc m144 d144_27 rfl rfl rfl
theorem d144_28 : decode cX11_choose 28 = .ok (.getfield 10, 3) := by decide +kernel
theorem s144_28 {d : Nat} {st : List Value} {σ : am_I} {ρ : am_R} {g : am_J} {τ : am_T} {Q : am_Q} {x0 x1 x2 x3 x4 x5 x6 x7 : Value} {a : Nat} (ht : τ.1 a = 11) : AW d 144 28 [x0, x1, x2, x3, x4, x5, x6, x7] (.ref a :: st) σ ρ g τ Q = AW d 144 31 [x0, x1, x2, x3, x4, x5, x6, x7] (va_rf (ρ a 0) :: st) σ ρ g τ Q := aw_gr m144 d144_28 rfl rfl rfl ht
theorem d144_31 : decode cX11_choose 31 = .ok (.getfield 387, 3) := by decide +kernel
theorem s144_31 {d : Nat} {st : List Value} {σ : am_I} {ρ : am_R} {g : am_J} {τ : am_T} {Q : am_Q} {x0 x1 x2 x3 x4 x5 x6 x7 : Value} {a : Nat} (ht : τ.1 a = 3) : AW d 144 31 [x0, x1, x2, x3, x4, x5, x6, x7] (.ref a :: st) σ ρ g τ Q = AW d 144 34 [x0, x1, x2, x3, x4, x5, x6, x7] (va_rf (ρ a 15) :: st) σ ρ g τ Q := aw_gr m144 d144_31 rfl rfl rfl ht
theorem d144_34 : decode cX11_choose 34 = .ok (.getfield 359, 3) := by decide +kernel
theorem s144_34 {d : Nat} {st : List Value} {σ : am_I} {ρ : am_R} {g : am_J} {τ : am_T} {Q : am_Q} {x0 x1 x2 x3 x4 x5 x6 x7 : Value} {a : Nat} (ht : τ.1 a = 4) : AW d 144 34 [x0, x1, x2, x3, x4, x5, x6, x7] (.ref a :: st) σ ρ g τ Q = AW d 144 37 [x0, x1, x2, x3, x4, x5, x6, x7] (.int (σ a 3) :: st) σ ρ g τ Q := aw_gi m144 d144_34 rfl rfl rfl ht
theorem d144_37 : decode cX11_choose 37 = .ok (.ishl, 1) := by decide +kernel
theorem s144_37 {d : Nat} {st : List Value} {σ : am_I} {ρ : am_R} {g : am_J} {τ : am_T} {Q : am_Q} {x0 x1 x2 x3 x4 x5 x6 x7 : Value} {v w : Int32} : AW d 144 37 [x0, x1, x2, x3, x4, x5, x6, x7] (.int w :: .int v :: st) σ ρ g τ Q = AW d 144 38 [x0, x1, x2, x3, x4, x5, x6, x7] (.int (v <<< (w &&& 31)) :: st) σ ρ g τ Q := aw_lc m144 d144_37 rfl rfl rfl
theorem d144_38 : decode cX11_choose 38 = .ok (.if_icmp .ge 64, 3) := by decide +kernel
theorem s144_38 {d : Nat} {st : List Value} {σ : am_I} {ρ : am_R} {g : am_J} {τ : am_T} {Q : am_Q} {x0 x1 x2 x3 x4 x5 x6 x7 : Value} {v w : Int32} : AW d 144 38 [x0, x1, x2, x3, x4, x5, x6, x7] (.int w :: .int v :: st) σ ρ g τ Q = if w ≤ v then AW d 144 102 [x0, x1, x2, x3, x4, x5, x6, x7] (st) σ ρ g τ Q else AW d 144 41 [x0, x1, x2, x3, x4, x5, x6, x7] (st) σ ρ g τ Q := aw_br m144 d144_38 rfl rfl rfl
theorem d144_41 : decode cX11_choose 41 = .ok (.aload_n 0, 1) := by decide +kernel
theorem s144_41 {d : Nat} {st : List Value} {σ : am_I} {ρ : am_R} {g : am_J} {τ : am_T} {Q : am_Q} {x1 x2 x3 x4 x5 x6 x7 : Value} {v : Nat} : AW d 144 41 [.ref v, x1, x2, x3, x4, x5, x6, x7] (st) σ ρ g τ Q = AW d 144 42 [.ref v, x1, x2, x3, x4, x5, x6, x7] (.ref v :: st) σ ρ g τ Q := aw_lc m144 d144_41 rfl rfl rfl
theorem d144_42 : decode cX11_choose 42 = .ok (.iload 5, 2) := by decide +kernel
theorem s144_42 {d : Nat} {st : List Value} {σ : am_I} {ρ : am_R} {g : am_J} {τ : am_T} {Q : am_Q} {x0 x1 x2 x3 x4 x6 x7 : Value} {v : Int32} : AW d 144 42 [x0, x1, x2, x3, x4, .int v, x6, x7] (st) σ ρ g τ Q = AW d 144 44 [x0, x1, x2, x3, x4, .int v, x6, x7] (.int v :: st) σ ρ g τ Q := aw_lc m144 d144_42 rfl rfl rfl
theorem d144_44 : decode cX11_choose 44 = .ok (.invokevirtual 390, 3) := by decide +kernel
theorem s144_44 {d : Nat} {st : List Value} {σ : am_I} {ρ : am_R} {g : am_J} {τ : am_T} {Q : am_Q} {x0 x1 x2 x3 x4 x5 x6 x7 : Value} {p0 : Nat} {p1 : Int32} (ht : τ.1 p0 = 11) (hs : st.length ≤ 4) : AW (d + 1) 144 44 [x0, x1, x2, x3, x4, x5, x6, x7] (.int p1 :: .ref p0 :: st) σ ρ g τ Q = AW d 145 0 [.ref p0, .int p1, am_jk, am_jk] [] σ ρ g τ (fun r9 σ ρ g τ => AW (d + 1) 144 47 [x0, x1, x2, x3, x4, x5, x6, x7] (r9.toList ++ st) σ ρ g τ Q) := aw_cv m144 d144_44 rfl m145 rfl rfl (by decide) en145 ok145 rfl ht hs
theorem d144_47 : decode cX11_choose 47 = .ok (.istore 6, 2) := by decide +kernel
theorem s144_47 {d : Nat} {st : List Value} {σ : am_I} {ρ : am_R} {g : am_J} {τ : am_T} {Q : am_Q} {x0 x1 x2 x3 x4 x6 x7 : Value} {v : Int32} {u : Int32} : AW d 144 47 [x0, x1, x2, x3, x4, .int u, x6, x7] (.int v :: st) σ ρ g τ Q = AW d 144 49 [x0, x1, x2, x3, x4, .int u, .int v, x7] (st) σ ρ g τ Q := aw_lc m144 d144_47 rfl rfl rfl
theorem d144_49 : decode cX11_choose 49 = .ok (.aload_n 0, 1) := by decide +kernel
theorem s144_49 {d : Nat} {st : List Value} {σ : am_I} {ρ : am_R} {g : am_J} {τ : am_T} {Q : am_Q} {x1 x2 x3 x4 x5 x6 x7 : Value} {v : Nat} : AW d 144 49 [.ref v, x1, x2, x3, x4, x5, x6, x7] (st) σ ρ g τ Q = AW d 144 50 [.ref v, x1, x2, x3, x4, x5, x6, x7] (.ref v :: st) σ ρ g τ Q := aw_lc m144 d144_49 rfl rfl rfl
theorem d144_50 : decode cX11_choose 50 = .ok (.iload 5, 2) := by decide +kernel
theorem s144_50 {d : Nat} {st : List Value} {σ : am_I} {ρ : am_R} {g : am_J} {τ : am_T} {Q : am_Q} {x0 x1 x2 x3 x4 x6 x7 : Value} {v : Int32} : AW d 144 50 [x0, x1, x2, x3, x4, .int v, x6, x7] (st) σ ρ g τ Q = AW d 144 52 [x0, x1, x2, x3, x4, .int v, x6, x7] (.int v :: st) σ ρ g τ Q := aw_lc m144 d144_50 rfl rfl rfl
theorem d144_52 : decode cX11_choose 52 = .ok (.invokevirtual 393, 3) := by decide +kernel
theorem s144_52 {d : Nat} {st : List Value} {σ : am_I} {ρ : am_R} {g : am_J} {τ : am_T} {Q : am_Q} {x0 x1 x2 x3 x4 x5 x6 x7 : Value} {p0 : Nat} {p1 : Int32} (ht : τ.1 p0 = 11) (hs : st.length ≤ 4) : AW (d + 1) 144 52 [x0, x1, x2, x3, x4, x5, x6, x7] (.int p1 :: .ref p0 :: st) σ ρ g τ Q = AW d 147 0 [.ref p0, .int p1, am_jk, am_jk] [] σ ρ g τ (fun r9 σ ρ g τ => AW (d + 1) 144 55 [x0, x1, x2, x3, x4, x5, x6, x7] (r9.toList ++ st) σ ρ g τ Q) := aw_cv m144 d144_52 rfl m147 rfl rfl (by decide) en147 ok147 rfl ht hs
theorem d144_55 : decode cX11_choose 55 = .ok (.istore 7, 2) := by decide +kernel
theorem s144_55 {d : Nat} {st : List Value} {σ : am_I} {ρ : am_R} {g : am_J} {τ : am_T} {Q : am_Q} {x0 x1 x2 x3 x4 x5 x7 : Value} {v : Int32} {u : Int32} : AW d 144 55 [x0, x1, x2, x3, x4, x5, .int u, x7] (.int v :: st) σ ρ g τ Q = AW d 144 57 [x0, x1, x2, x3, x4, x5, .int u, .int v] (st) σ ρ g τ Q := aw_lc m144 d144_55 rfl rfl rfl
theorem d144_57 : decode cX11_choose 57 = .ok (.iload 6, 2) := by decide +kernel
theorem s144_57 {d : Nat} {st : List Value} {σ : am_I} {ρ : am_R} {g : am_J} {τ : am_T} {Q : am_Q} {x0 x1 x2 x3 x4 x5 x7 : Value} {v : Int32} : AW d 144 57 [x0, x1, x2, x3, x4, x5, .int v, x7] (st) σ ρ g τ Q = AW d 144 59 [x0, x1, x2, x3, x4, x5, .int v, x7] (.int v :: st) σ ρ g τ Q := aw_lc m144 d144_57 rfl rfl rfl
theorem d144_59 : decode cX11_choose 59 = .ok (.iload_n 1, 1) := by decide +kernel
theorem s144_59 {d : Nat} {st : List Value} {σ : am_I} {ρ : am_R} {g : am_J} {τ : am_T} {Q : am_Q} {x0 x2 x3 x4 x5 x6 x7 : Value} {v : Int32} : AW d 144 59 [x0, .int v, x2, x3, x4, x5, x6, x7] (st) σ ρ g τ Q = AW d 144 60 [x0, .int v, x2, x3, x4, x5, x6, x7] (.int v :: st) σ ρ g τ Q := aw_lc m144 d144_59 rfl rfl rfl
theorem d144_60 : decode cX11_choose 60 = .ok (.if_icmp .lt 36, 3) := by decide +kernel
theorem s144_60 {d : Nat} {st : List Value} {σ : am_I} {ρ : am_R} {g : am_J} {τ : am_T} {Q : am_Q} {x0 x1 x2 x3 x4 x5 x6 x7 : Value} {v w : Int32} : AW d 144 60 [x0, x1, x2, x3, x4, x5, x6, x7] (.int w :: .int v :: st) σ ρ g τ Q = if v < w then AW d 144 96 [x0, x1, x2, x3, x4, x5, x6, x7] (st) σ ρ g τ Q else AW d 144 63 [x0, x1, x2, x3, x4, x5, x6, x7] (st) σ ρ g τ Q := aw_br m144 d144_60 rfl rfl rfl
theorem d144_63 : decode cX11_choose 63 = .ok (.iload_n 2, 1) := by decide +kernel
theorem s144_63 {d : Nat} {st : List Value} {σ : am_I} {ρ : am_R} {g : am_J} {τ : am_T} {Q : am_Q} {x0 x1 x3 x4 x5 x6 x7 : Value} {v : Int32} : AW d 144 63 [x0, x1, .int v, x3, x4, x5, x6, x7] (st) σ ρ g τ Q = AW d 144 64 [x0, x1, .int v, x3, x4, x5, x6, x7] (.int v :: st) σ ρ g τ Q := aw_lc m144 d144_63 rfl rfl rfl
theorem d144_64 : decode cX11_choose 64 = .ok (.ifCond .lt 22, 3) := by decide +kernel
theorem s144_64 {d : Nat} {st : List Value} {σ : am_I} {ρ : am_R} {g : am_J} {τ : am_T} {Q : am_Q} {x0 x1 x2 x3 x4 x5 x6 x7 : Value} {v : Int32} : AW d 144 64 [x0, x1, x2, x3, x4, x5, x6, x7] (.int v :: st) σ ρ g τ Q = if v < 0 then AW d 144 86 [x0, x1, x2, x3, x4, x5, x6, x7] (st) σ ρ g τ Q else AW d 144 67 [x0, x1, x2, x3, x4, x5, x6, x7] (st) σ ρ g τ Q := aw_br m144 d144_64 rfl rfl rfl
theorem d144_67 : decode cX11_choose 67 = .ok (.iload 7, 2) := by decide +kernel
theorem s144_67 {d : Nat} {st : List Value} {σ : am_I} {ρ : am_R} {g : am_J} {τ : am_T} {Q : am_Q} {x0 x1 x2 x3 x4 x5 x6 : Value} {v : Int32} : AW d 144 67 [x0, x1, x2, x3, x4, x5, x6, .int v] (st) σ ρ g τ Q = AW d 144 69 [x0, x1, x2, x3, x4, x5, x6, .int v] (.int v :: st) σ ρ g τ Q := aw_lc m144 d144_67 rfl rfl rfl
theorem d144_69 : decode cX11_choose 69 = .ok (.iload_n 3, 1) := by decide +kernel
theorem s144_69 {d : Nat} {st : List Value} {σ : am_I} {ρ : am_R} {g : am_J} {τ : am_T} {Q : am_Q} {x0 x1 x2 x4 x5 x6 x7 : Value} {v : Int32} : AW d 144 69 [x0, x1, x2, .int v, x4, x5, x6, x7] (st) σ ρ g τ Q = AW d 144 70 [x0, x1, x2, .int v, x4, x5, x6, x7] (.int v :: st) σ ρ g τ Q := aw_lc m144 d144_69 rfl rfl rfl
theorem d144_70 : decode cX11_choose 70 = .ok (.if_icmp .lt 16, 3) := by decide +kernel
theorem s144_70 {d : Nat} {st : List Value} {σ : am_I} {ρ : am_R} {g : am_J} {τ : am_T} {Q : am_Q} {x0 x1 x2 x3 x4 x5 x6 x7 : Value} {v w : Int32} : AW d 144 70 [x0, x1, x2, x3, x4, x5, x6, x7] (.int w :: .int v :: st) σ ρ g τ Q = if v < w then AW d 144 86 [x0, x1, x2, x3, x4, x5, x6, x7] (st) σ ρ g τ Q else AW d 144 73 [x0, x1, x2, x3, x4, x5, x6, x7] (st) σ ρ g τ Q := aw_br m144 d144_70 rfl rfl rfl
theorem d144_73 : decode cX11_choose 73 = .ok (.iload 7, 2) := by decide +kernel
theorem s144_73 {d : Nat} {st : List Value} {σ : am_I} {ρ : am_R} {g : am_J} {τ : am_T} {Q : am_Q} {x0 x1 x2 x3 x4 x5 x6 : Value} {v : Int32} : AW d 144 73 [x0, x1, x2, x3, x4, x5, x6, .int v] (st) σ ρ g τ Q = AW d 144 75 [x0, x1, x2, x3, x4, x5, x6, .int v] (.int v :: st) σ ρ g τ Q := aw_lc m144 d144_73 rfl rfl rfl
theorem d144_75 : decode cX11_choose 75 = .ok (.iload_n 3, 1) := by decide +kernel
theorem s144_75 {d : Nat} {st : List Value} {σ : am_I} {ρ : am_R} {g : am_J} {τ : am_T} {Q : am_Q} {x0 x1 x2 x4 x5 x6 x7 : Value} {v : Int32} : AW d 144 75 [x0, x1, x2, .int v, x4, x5, x6, x7] (st) σ ρ g τ Q = AW d 144 76 [x0, x1, x2, .int v, x4, x5, x6, x7] (.int v :: st) σ ρ g τ Q := aw_lc m144 d144_75 rfl rfl rfl
theorem d144_76 : decode cX11_choose 76 = .ok (.if_icmp .ne 20, 3) := by decide +kernel
theorem s144_76 {d : Nat} {st : List Value} {σ : am_I} {ρ : am_R} {g : am_J} {τ : am_T} {Q : am_Q} {x0 x1 x2 x3 x4 x5 x6 x7 : Value} {v w : Int32} : AW d 144 76 [x0, x1, x2, x3, x4, x5, x6, x7] (.int w :: .int v :: st) σ ρ g τ Q = if ¬ v = w then AW d 144 96 [x0, x1, x2, x3, x4, x5, x6, x7] (st) σ ρ g τ Q else AW d 144 79 [x0, x1, x2, x3, x4, x5, x6, x7] (st) σ ρ g τ Q := aw_br m144 d144_76 rfl rfl rfl
theorem d144_79 : decode cX11_choose 79 = .ok (.iload 6, 2) := by decide +kernel
theorem s144_79 {d : Nat} {st : List Value} {σ : am_I} {ρ : am_R} {g : am_J} {τ : am_T} {Q : am_Q} {x0 x1 x2 x3 x4 x5 x7 : Value} {v : Int32} : AW d 144 79 [x0, x1, x2, x3, x4, x5, .int v, x7] (st) σ ρ g τ Q = AW d 144 81 [x0, x1, x2, x3, x4, x5, .int v, x7] (.int v :: st) σ ρ g τ Q := aw_lc m144 d144_79 rfl rfl rfl
theorem d144_81 : decode cX11_choose 81 = .ok (.iload 4, 2) := by decide +kernel
theorem s144_81 {d : Nat} {st : List Value} {σ : am_I} {ρ : am_R} {g : am_J} {τ : am_T} {Q : am_Q} {x0 x1 x2 x3 x5 x6 x7 : Value} {v : Int32} : AW d 144 81 [x0, x1, x2, x3, .int v, x5, x6, x7] (st) σ ρ g τ Q = AW d 144 83 [x0, x1, x2, x3, .int v, x5, x6, x7] (.int v :: st) σ ρ g τ Q := aw_lc m144 d144_81 rfl rfl rfl
theorem d144_83 : decode cX11_choose 83 = .ok (.if_icmp .le 13, 3) := by decide +kernel
theorem s144_83 {d : Nat} {st : List Value} {σ : am_I} {ρ : am_R} {g : am_J} {τ : am_T} {Q : am_Q} {x0 x1 x2 x3 x4 x5 x6 x7 : Value} {v w : Int32} : AW d 144 83 [x0, x1, x2, x3, x4, x5, x6, x7] (.int w :: .int v :: st) σ ρ g τ Q = if v ≤ w then AW d 144 96 [x0, x1, x2, x3, x4, x5, x6, x7] (st) σ ρ g τ Q else AW d 144 86 [x0, x1, x2, x3, x4, x5, x6, x7] (st) σ ρ g τ Q := aw_br m144 d144_83 rfl rfl rfl
theorem d144_86 : decode cX11_choose 86 = .ok (.iload 5, 2) := by decide +kernel
theorem s144_86 {d : Nat} {st : List Value} {σ : am_I} {ρ : am_R} {g : am_J} {τ : am_T} {Q : am_Q} {x0 x1 x2 x3 x4 x6 x7 : Value} {v : Int32} : AW d 144 86 [x0, x1, x2, x3, x4, .int v, x6, x7] (st) σ ρ g τ Q = AW d 144 88 [x0, x1, x2, x3, x4, .int v, x6, x7] (.int v :: st) σ ρ g τ Q := aw_lc m144 d144_86 rfl rfl rfl
theorem d144_88 : decode cX11_choose 88 = .ok (.istore_n 2, 1) := by decide +kernel
theorem s144_88 {d : Nat} {st : List Value} {σ : am_I} {ρ : am_R} {g : am_J} {τ : am_T} {Q : am_Q} {x0 x2 x3 x4 x5 x6 x7 : Value} {v : Int32} {u : Int32} : AW d 144 88 [x0, .int u, x2, x3, x4, x5, x6, x7] (.int v :: st) σ ρ g τ Q = AW d 144 89 [x0, .int u, .int v, x3, x4, x5, x6, x7] (st) σ ρ g τ Q := aw_lc m144 d144_88 rfl rfl rfl
theorem d144_89 : decode cX11_choose 89 = .ok (.iload 7, 2) := by decide +kernel
theorem s144_89 {d : Nat} {st : List Value} {σ : am_I} {ρ : am_R} {g : am_J} {τ : am_T} {Q : am_Q} {x0 x1 x2 x3 x4 x5 x6 : Value} {v : Int32} : AW d 144 89 [x0, x1, x2, x3, x4, x5, x6, .int v] (st) σ ρ g τ Q = AW d 144 91 [x0, x1, x2, x3, x4, x5, x6, .int v] (.int v :: st) σ ρ g τ Q := aw_lc m144 d144_89 rfl rfl rfl
theorem d144_91 : decode cX11_choose 91 = .ok (.istore_n 3, 1) := by decide +kernel
theorem s144_91 {d : Nat} {st : List Value} {σ : am_I} {ρ : am_R} {g : am_J} {τ : am_T} {Q : am_Q} {x0 x1 x3 x4 x5 x6 x7 : Value} {v : Int32} {u : Int32} : AW d 144 91 [x0, x1, .int u, x3, x4, x5, x6, x7] (.int v :: st) σ ρ g τ Q = AW d 144 92 [x0, x1, .int u, .int v, x4, x5, x6, x7] (st) σ ρ g τ Q := aw_lc m144 d144_91 rfl rfl rfl
theorem d144_92 : decode cX11_choose 92 = .ok (.iload 6, 2) := by decide +kernel
theorem s144_92 {d : Nat} {st : List Value} {σ : am_I} {ρ : am_R} {g : am_J} {τ : am_T} {Q : am_Q} {x0 x1 x2 x3 x4 x5 x7 : Value} {v : Int32} : AW d 144 92 [x0, x1, x2, x3, x4, x5, .int v, x7] (st) σ ρ g τ Q = AW d 144 94 [x0, x1, x2, x3, x4, x5, .int v, x7] (.int v :: st) σ ρ g τ Q := aw_lc m144 d144_92 rfl rfl rfl
theorem d144_94 : decode cX11_choose 94 = .ok (.istore 4, 2) := by decide +kernel
theorem s144_94 {d : Nat} {st : List Value} {σ : am_I} {ρ : am_R} {g : am_J} {τ : am_T} {Q : am_Q} {x0 x1 x2 x4 x5 x6 x7 : Value} {v : Int32} {u : Int32} : AW d 144 94 [x0, x1, x2, .int u, x4, x5, x6, x7] (.int v :: st) σ ρ g τ Q = AW d 144 96 [x0, x1, x2, .int u, .int v, x5, x6, x7] (st) σ ρ g τ Q := aw_lc m144 d144_94 rfl rfl rfl
theorem d144_96 : decode cX11_choose 96 = .ok (.iinc 5 1, 3) := by decide +kernel
theorem s144_96 {d : Nat} {st : List Value} {σ : am_I} {ρ : am_R} {g : am_J} {τ : am_T} {Q : am_Q} {x0 x1 x2 x3 x6 x7 : Value} {v : Int32} {u : Int32} : AW d 144 96 [x0, x1, x2, x3, .int u, .int v, x6, x7] (st) σ ρ g τ Q = AW d 144 99 [x0, x1, x2, x3, .int u, .int (v + 1), x6, x7] (st) σ ρ g τ Q := aw_lc m144 d144_96 rfl rfl rfl
theorem d144_99 : decode cX11_choose 99 = .ok (.goto (-75), 3) := by decide +kernel
theorem s144_99 {d : Nat} {st : List Value} {σ : am_I} {ρ : am_R} {g : am_J} {τ : am_T} {Q : am_Q} {x0 x1 x2 x3 x4 x5 x6 x7 : Value} : AW d 144 99 [x0, x1, x2, x3, x4, x5, x6, x7] (st) σ ρ g τ Q = AW d 144 24 [x0, x1, x2, x3, x4, x5, x6, x7] (st) σ ρ g τ Q := aw_lc m144 d144_99 rfl rfl rfl
theorem d144_102 : decode cX11_choose 102 = .ok (.iload_n 2, 1) := by decide +kernel
theorem s144_102 {d : Nat} {st : List Value} {σ : am_I} {ρ : am_R} {g : am_J} {τ : am_T} {Q : am_Q} {x0 x1 x3 x4 x5 x6 x7 : Value} {v : Int32} : AW d 144 102 [x0, x1, .int v, x3, x4, x5, x6, x7] (st) σ ρ g τ Q = AW d 144 103 [x0, x1, .int v, x3, x4, x5, x6, x7] (.int v :: st) σ ρ g τ Q := aw_lc m144 d144_102 rfl rfl rfl
theorem d144_103 : decode cX11_choose 103 = .ok (.ifCond .lt 8, 3) := by decide +kernel
theorem s144_103 {d : Nat} {st : List Value} {σ : am_I} {ρ : am_R} {g : am_J} {τ : am_T} {Q : am_Q} {x0 x1 x2 x3 x4 x5 x6 x7 : Value} {v : Int32} : AW d 144 103 [x0, x1, x2, x3, x4, x5, x6, x7] (.int v :: st) σ ρ g τ Q = if v < 0 then AW d 144 111 [x0, x1, x2, x3, x4, x5, x6, x7] (st) σ ρ g τ Q else AW d 144 106 [x0, x1, x2, x3, x4, x5, x6, x7] (st) σ ρ g τ Q := aw_br m144 d144_103 rfl rfl rfl
theorem d144_106 : decode cX11_choose 106 = .ok (.aload_n 0, 1) := by decide +kernel
theorem s144_106 {d : Nat} {st : List Value} {σ : am_I} {ρ : am_R} {g : am_J} {τ : am_T} {Q : am_Q} {x1 x2 x3 x4 x5 x6 x7 : Value} {v : Nat} : AW d 144 106 [.ref v, x1, x2, x3, x4, x5, x6, x7] (st) σ ρ g τ Q = AW d 144 107 [.ref v, x1, x2, x3, x4, x5, x6, x7] (.ref v :: st) σ ρ g τ Q := aw_lc m144 d144_106 rfl rfl rfl
theorem d144_107 : decode cX11_choose 107 = .ok (.iload_n 2, 1) := by decide +kernel
theorem s144_107 {d : Nat} {st : List Value} {σ : am_I} {ρ : am_R} {g : am_J} {τ : am_T} {Q : am_Q} {x0 x1 x3 x4 x5 x6 x7 : Value} {v : Int32} : AW d 144 107 [x0, x1, .int v, x3, x4, x5, x6, x7] (st) σ ρ g τ Q = AW d 144 108 [x0, x1, .int v, x3, x4, x5, x6, x7] (.int v :: st) σ ρ g τ Q := aw_lc m144 d144_107 rfl rfl rfl
theorem d144_108 : decode cX11_choose 108 = .ok (.invokevirtual 396, 3) := by decide +kernel
theorem s144_108 {d : Nat} {st : List Value} {σ : am_I} {ρ : am_R} {g : am_J} {τ : am_T} {Q : am_Q} {x0 x1 x2 x3 x4 x5 x6 x7 : Value} {p0 : Nat} {p1 : Int32} (ht : τ.1 p0 = 11) (hs : st.length ≤ 4) : AW (d + 1) 144 108 [x0, x1, x2, x3, x4, x5, x6, x7] (.int p1 :: .ref p0 :: st) σ ρ g τ Q = AW d 148 0 [.ref p0, .int p1, am_jk, am_jk] [] σ ρ g τ (fun r9 σ ρ g τ => AW (d + 1) 144 111 [x0, x1, x2, x3, x4, x5, x6, x7] (r9.toList ++ st) σ ρ g τ Q) := aw_cv m144 d144_108 rfl m148 rfl rfl (by decide) en148 ok148 rfl ht hs
theorem d144_111 : decode cX11_choose 111 = .ok (.iload_n 2, 1) := by decide +kernel
theorem s144_111 {d : Nat} {st : List Value} {σ : am_I} {ρ : am_R} {g : am_J} {τ : am_T} {Q : am_Q} {x0 x1 x3 x4 x5 x6 x7 : Value} {v : Int32} : AW d 144 111 [x0, x1, .int v, x3, x4, x5, x6, x7] (st) σ ρ g τ Q = AW d 144 112 [x0, x1, .int v, x3, x4, x5, x6, x7] (.int v :: st) σ ρ g τ Q := aw_lc m144 d144_111 rfl rfl rfl
theorem d144_112 : decode cX11_choose 112 = .ok (.ireturn, 1) := by decide +kernel
theorem s144_112 {d : Nat} {σ : am_I} {ρ : am_R} {g : am_J} {τ : am_T} {Q : am_Q} {x0 x1 x2 x3 x4 x5 x6 x7 : Value} {v : Int32} : AW d 144 112 [x0, x1, x2, x3, x4, x5, x6, x7] ([.int v]) σ ρ g τ Q = Q (some (.int v)) σ ρ g τ := aw_ri m144 d144_112 rfl
theorem d145_0 : decode cX11_leastYearOf 0 = .ok (.aload_n 0, 1) := by decide +kernel
theorem s145_0 {d : Nat} {st : List Value} {σ : am_I} {ρ : am_R} {g : am_J} {τ : am_T} {Q : am_Q} {x1 x2 x3 : Value} {v : Nat} : AW d 145 0 [.ref v, x1, x2, x3] (st) σ ρ g τ Q = AW d 145 1 [.ref v, x1, x2, x3] (.ref v :: st) σ ρ g τ Q := aw_lc m145 d145_0 rfl rfl rfl
theorem d145_1 : decode cX11_leastYearOf 1 = .ok (.getfield 71, 3) := by decide +kernel
theorem s145_1 {d : Nat} {st : List Value} {σ : am_I} {ρ : am_R} {g : am_J} {τ : am_T} {Q : am_Q} {x0 x1 x2 x3 : Value} {a : Nat} (ht : τ.1 a = 11) : AW d 145 1 [x0, x1, x2, x3] (.ref a :: st) σ ρ g τ Q = AW d 145 4 [x0, x1, x2, x3] (va_rf (ρ a 10) :: st) σ ρ g τ Q := aw_gr m145 d145_1 rfl rfl rfl ht
theorem d145_4 : decode cX11_leastYearOf 4 = .ok (.iconst 0, 1) := by decide +kernel
theorem s145_4 {d : Nat} {st : List Value} {σ : am_I} {ρ : am_R} {g : am_J} {τ : am_T} {Q : am_Q} {x0 x1 x2 x3 : Value} : AW d 145 4 [x0, x1, x2, x3] (st) σ ρ g τ Q = AW d 145 5 [x0, x1, x2, x3] (.int 0 :: st) σ ρ g τ Q := aw_lc m145 d145_4 rfl rfl rfl
theorem d145_5 : decode cX11_leastYearOf 5 = .ok (.invokestatic 399, 3) := by decide +kernel
theorem s145_5 {d : Nat} {st : List Value} {σ : am_I} {ρ : am_R} {g : am_J} {τ : am_T} {Q : am_Q} {x0 x1 x2 x3 : Value} {p0 : Nat} {p1 : Int32} (hs : st.length ≤ 4) : AW (d + 1) 145 5 [x0, x1, x2, x3] (.int p1 :: .ref p0 :: st) σ ρ g τ Q = AW d 275 0 [.ref p0, .int p1, am_jk, am_jk] [] σ ρ g τ (fun r9 σ ρ g τ => AW (d + 1) 145 8 [x0, x1, x2, x3] (r9.toList ++ st) σ ρ g τ Q) := aw_cs m145 d145_5 rfl (by simp only [List.length_cons]; omega) rfl rfl en275 ok275 rfl hs
theorem d145_8 : decode cX11_leastYearOf 8 = .ok (.iconst 0, 1) := by decide +kernel
theorem s145_8 {d : Nat} {st : List Value} {σ : am_I} {ρ : am_R} {g : am_J} {τ : am_T} {Q : am_Q} {x0 x1 x2 x3 : Value} : AW d 145 8 [x0, x1, x2, x3] (st) σ ρ g τ Q = AW d 145 9 [x0, x1, x2, x3] (.int 0 :: st) σ ρ g τ Q := aw_lc m145 d145_8 rfl rfl rfl
theorem d145_9 : decode cX11_leastYearOf 9 = .ok (.istore_n 2, 1) := by decide +kernel
theorem s145_9 {d : Nat} {st : List Value} {σ : am_I} {ρ : am_R} {g : am_J} {τ : am_T} {Q : am_Q} {x0 x2 x3 : Value} {v : Int32} {u : Int32} : AW d 145 9 [x0, .int u, x2, x3] (.int v :: st) σ ρ g τ Q = AW d 145 10 [x0, .int u, .int v, x3] (st) σ ρ g τ Q := aw_lc m145 d145_9 rfl rfl rfl
theorem d145_10 : decode cX11_leastYearOf 10 = .ok (.iconst 0, 1) := by decide +kernel
theorem s145_10 {d : Nat} {st : List Value} {σ : am_I} {ρ : am_R} {g : am_J} {τ : am_T} {Q : am_Q} {x0 x1 x2 x3 : Value} : AW d 145 10 [x0, x1, x2, x3] (st) σ ρ g τ Q = AW d 145 11 [x0, x1, x2, x3] (.int 0 :: st) σ ρ g τ Q := aw_lc m145 d145_10 rfl rfl rfl
theorem d145_11 : decode cX11_leastYearOf 11 = .ok (.istore_n 3, 1) := by decide +kernel
theorem s145_11 {d : Nat} {st : List Value} {σ : am_I} {ρ : am_R} {g : am_J} {τ : am_T} {Q : am_Q} {x0 x1 x3 : Value} {v : Int32} {u : Int32} : AW d 145 11 [x0, x1, .int u, x3] (.int v :: st) σ ρ g τ Q = AW d 145 12 [x0, x1, .int u, .int v] (st) σ ρ g τ Q := aw_lc m145 d145_11 rfl rfl rfl
theorem d145_12 : decode cX11_leastYearOf 12 = .ok (.iload_n 3, 1) := by decide +kernel
theorem s145_12 {d : Nat} {st : List Value} {σ : am_I} {ρ : am_R} {g : am_J} {τ : am_T} {Q : am_Q} {x0 x1 x2 : Value} {v : Int32} : AW d 145 12 [x0, x1, x2, .int v] (st) σ ρ g τ Q = AW d 145 13 [x0, x1, x2, .int v] (.int v :: st) σ ρ g τ Q := aw_lc m145 d145_12 rfl rfl rfl
theorem d145_13 : decode cX11_leastYearOf 13 = .ok (.aload_n 0, 1) := by decide +kernel
theorem s145_13 {d : Nat} {st : List Value} {σ : am_I} {ρ : am_R} {g : am_J} {τ : am_T} {Q : am_Q} {x1 x2 x3 : Value} {v : Nat} : AW d 145 13 [.ref v, x1, x2, x3] (st) σ ρ g τ Q = AW d 145 14 [.ref v, x1, x2, x3] (.ref v :: st) σ ρ g τ Q := aw_lc m145 d145_13 rfl rfl rfl
theorem d145_14 : decode cX11_leastYearOf 14 = .ok (.getfield 10, 3) := by decide +kernel
theorem s145_14 {d : Nat} {st : List Value} {σ : am_I} {ρ : am_R} {g : am_J} {τ : am_T} {Q : am_Q} {x0 x1 x2 x3 : Value} {a : Nat} (ht : τ.1 a = 11) : AW d 145 14 [x0, x1, x2, x3] (.ref a :: st) σ ρ g τ Q = AW d 145 17 [x0, x1, x2, x3] (va_rf (ρ a 0) :: st) σ ρ g τ Q := aw_gr m145 d145_14 rfl rfl rfl ht
theorem d145_17 : decode cX11_leastYearOf 17 = .ok (.getfield 387, 3) := by decide +kernel
theorem s145_17 {d : Nat} {st : List Value} {σ : am_I} {ρ : am_R} {g : am_J} {τ : am_T} {Q : am_Q} {x0 x1 x2 x3 : Value} {a : Nat} (ht : τ.1 a = 3) : AW d 145 17 [x0, x1, x2, x3] (.ref a :: st) σ ρ g τ Q = AW d 145 20 [x0, x1, x2, x3] (va_rf (ρ a 15) :: st) σ ρ g τ Q := aw_gr m145 d145_17 rfl rfl rfl ht
theorem d145_20 : decode cX11_leastYearOf 20 = .ok (.getfield 359, 3) := by decide +kernel
theorem s145_20 {d : Nat} {st : List Value} {σ : am_I} {ρ : am_R} {g : am_J} {τ : am_T} {Q : am_Q} {x0 x1 x2 x3 : Value} {a : Nat} (ht : τ.1 a = 4) : AW d 145 20 [x0, x1, x2, x3] (.ref a :: st) σ ρ g τ Q = AW d 145 23 [x0, x1, x2, x3] (.int (σ a 3) :: st) σ ρ g τ Q := aw_gi m145 d145_20 rfl rfl rfl ht
theorem d145_23 : decode cX11_leastYearOf 23 = .ok (.if_icmp .ge 24, 3) := by decide +kernel
theorem s145_23 {d : Nat} {st : List Value} {σ : am_I} {ρ : am_R} {g : am_J} {τ : am_T} {Q : am_Q} {x0 x1 x2 x3 : Value} {v w : Int32} : AW d 145 23 [x0, x1, x2, x3] (.int w :: .int v :: st) σ ρ g τ Q = if w ≤ v then AW d 145 47 [x0, x1, x2, x3] (st) σ ρ g τ Q else AW d 145 26 [x0, x1, x2, x3] (st) σ ρ g τ Q := aw_br m145 d145_23 rfl rfl rfl
theorem d145_26 : decode cX11_leastYearOf 26 = .ok (.iload_n 1, 1) := by decide +kernel
theorem s145_26 {d : Nat} {st : List Value} {σ : am_I} {ρ : am_R} {g : am_J} {τ : am_T} {Q : am_Q} {x0 x2 x3 : Value} {v : Int32} : AW d 145 26 [x0, .int v, x2, x3] (st) σ ρ g τ Q = AW d 145 27 [x0, .int v, x2, x3] (.int v :: st) σ ρ g τ Q := aw_lc m145 d145_26 rfl rfl rfl
theorem d145_27 : decode cX11_leastYearOf 27 = .ok (.iload_n 3, 1) := by decide +kernel
theorem s145_27 {d : Nat} {st : List Value} {σ : am_I} {ρ : am_R} {g : am_J} {τ : am_T} {Q : am_Q} {x0 x1 x2 : Value} {v : Int32} : AW d 145 27 [x0, x1, x2, .int v] (st) σ ρ g τ Q = AW d 145 28 [x0, x1, x2, .int v] (.int v :: st) σ ρ g τ Q := aw_lc m145 d145_27 rfl rfl rfl
theorem d145_28 : decode cX11_leastYearOf 28 = .ok (.ishr, 1) := by decide +kernel
theorem s145_28 {d : Nat} {st : List Value} {σ : am_I} {ρ : am_R} {g : am_J} {τ : am_T} {Q : am_Q} {x0 x1 x2 x3 : Value} {v w : Int32} : AW d 145 28 [x0, x1, x2, x3] (.int w :: .int v :: st) σ ρ g τ Q = AW d 145 29 [x0, x1, x2, x3] (.int (v >>> (w &&& 31)) :: st) σ ρ g τ Q := aw_lc m145 d145_28 rfl rfl rfl
theorem d145_29 : decode cX11_leastYearOf 29 = .ok (.iconst 1, 1) := by decide +kernel
theorem s145_29 {d : Nat} {st : List Value} {σ : am_I} {ρ : am_R} {g : am_J} {τ : am_T} {Q : am_Q} {x0 x1 x2 x3 : Value} : AW d 145 29 [x0, x1, x2, x3] (st) σ ρ g τ Q = AW d 145 30 [x0, x1, x2, x3] (.int 1 :: st) σ ρ g τ Q := aw_lc m145 d145_29 rfl rfl rfl
theorem d145_30 : decode cX11_leastYearOf 30 = .ok (.iand, 1) := by decide +kernel
theorem s145_30 {d : Nat} {st : List Value} {σ : am_I} {ρ : am_R} {g : am_J} {τ : am_T} {Q : am_Q} {x0 x1 x2 x3 : Value} {v w : Int32} : AW d 145 30 [x0, x1, x2, x3] (.int w :: .int v :: st) σ ρ g τ Q = AW d 145 31 [x0, x1, x2, x3] (.int (v &&& w) :: st) σ ρ g τ Q := aw_lc m145 d145_30 rfl rfl rfl
theorem d145_31 : decode cX11_leastYearOf 31 = .ok (.iconst 1, 1) := by decide +kernel
theorem s145_31 {d : Nat} {st : List Value} {σ : am_I} {ρ : am_R} {g : am_J} {τ : am_T} {Q : am_Q} {x0 x1 x2 x3 : Value} : AW d 145 31 [x0, x1, x2, x3] (st) σ ρ g τ Q = AW d 145 32 [x0, x1, x2, x3] (.int 1 :: st) σ ρ g τ Q := aw_lc m145 d145_31 rfl rfl rfl
theorem d145_32 : decode cX11_leastYearOf 32 = .ok (.if_icmp .ne 9, 3) := by decide +kernel
theorem s145_32 {d : Nat} {st : List Value} {σ : am_I} {ρ : am_R} {g : am_J} {τ : am_T} {Q : am_Q} {x0 x1 x2 x3 : Value} {v w : Int32} : AW d 145 32 [x0, x1, x2, x3] (.int w :: .int v :: st) σ ρ g τ Q = if ¬ v = w then AW d 145 41 [x0, x1, x2, x3] (st) σ ρ g τ Q else AW d 145 35 [x0, x1, x2, x3] (st) σ ρ g τ Q := aw_br m145 d145_32 rfl rfl rfl
theorem d145_35 : decode cX11_leastYearOf 35 = .ok (.aload_n 0, 1) := by decide +kernel
theorem s145_35 {d : Nat} {st : List Value} {σ : am_I} {ρ : am_R} {g : am_J} {τ : am_T} {Q : am_Q} {x1 x2 x3 : Value} {v : Nat} : AW d 145 35 [.ref v, x1, x2, x3] (st) σ ρ g τ Q = AW d 145 36 [.ref v, x1, x2, x3] (.ref v :: st) σ ρ g τ Q := aw_lc m145 d145_35 rfl rfl rfl
theorem d145_36 : decode cX11_leastYearOf 36 = .ok (.iload_n 3, 1) := by decide +kernel
theorem s145_36 {d : Nat} {st : List Value} {σ : am_I} {ρ : am_R} {g : am_J} {τ : am_T} {Q : am_Q} {x0 x1 x2 : Value} {v : Int32} : AW d 145 36 [x0, x1, x2, .int v] (st) σ ρ g τ Q = AW d 145 37 [x0, x1, x2, .int v] (.int v :: st) σ ρ g τ Q := aw_lc m145 d145_36 rfl rfl rfl
theorem d145_37 : decode cX11_leastYearOf 37 = .ok (.invokevirtual 405, 3) := by decide +kernel
theorem s145_37 {d : Nat} {st : List Value} {σ : am_I} {ρ : am_R} {g : am_J} {τ : am_T} {Q : am_Q} {x0 x1 x2 x3 : Value} {p0 : Nat} {p1 : Int32} (ht : τ.1 p0 = 11) (hs : st.length ≤ 4) : AW (d + 1) 145 37 [x0, x1, x2, x3] (.int p1 :: .ref p0 :: st) σ ρ g τ Q = AW d 146 0 [.ref p0, .int p1, am_jk] [] σ ρ g τ (fun r9 σ ρ g τ => AW (d + 1) 145 40 [x0, x1, x2, x3] (r9.toList ++ st) σ ρ g τ Q) := aw_cv m145 d145_37 rfl m146 rfl rfl (by decide) en146 ok146 rfl ht hs
theorem d145_40 : decode cX11_leastYearOf 40 = .ok (.istore_n 2, 1) := by decide +kernel
theorem s145_40 {d : Nat} {st : List Value} {σ : am_I} {ρ : am_R} {g : am_J} {τ : am_T} {Q : am_Q} {x0 x2 x3 : Value} {v : Int32} {u : Int32} : AW d 145 40 [x0, .int u, x2, x3] (.int v :: st) σ ρ g τ Q = AW d 145 41 [x0, .int u, .int v, x3] (st) σ ρ g τ Q := aw_lc m145 d145_40 rfl rfl rfl
theorem d145_41 : decode cX11_leastYearOf 41 = .ok (.iinc 3 1, 3) := by decide +kernel
theorem s145_41 {d : Nat} {st : List Value} {σ : am_I} {ρ : am_R} {g : am_J} {τ : am_T} {Q : am_Q} {x0 x1 : Value} {v : Int32} {u : Int32} : AW d 145 41 [x0, x1, .int u, .int v] (st) σ ρ g τ Q = AW d 145 44 [x0, x1, .int u, .int (v + 1)] (st) σ ρ g τ Q := aw_lc m145 d145_41 rfl rfl rfl
theorem d145_44 : decode cX11_leastYearOf 44 = .ok (.goto (-32), 3) := by decide +kernel
theorem s145_44 {d : Nat} {st : List Value} {σ : am_I} {ρ : am_R} {g : am_J} {τ : am_T} {Q : am_Q} {x0 x1 x2 x3 : Value} : AW d 145 44 [x0, x1, x2, x3] (st) σ ρ g τ Q = AW d 145 12 [x0, x1, x2, x3] (st) σ ρ g τ Q := aw_lc m145 d145_44 rfl rfl rfl
theorem d145_47 : decode cX11_leastYearOf 47 = .ok (.iload_n 2, 1) := by decide +kernel
theorem s145_47 {d : Nat} {st : List Value} {σ : am_I} {ρ : am_R} {g : am_J} {τ : am_T} {Q : am_Q} {x0 x1 x3 : Value} {v : Int32} : AW d 145 47 [x0, x1, .int v, x3] (st) σ ρ g τ Q = AW d 145 48 [x0, x1, .int v, x3] (.int v :: st) σ ρ g τ Q := aw_lc m145 d145_47 rfl rfl rfl
theorem d145_48 : decode cX11_leastYearOf 48 = .ok (.ireturn, 1) := by decide +kernel
theorem s145_48 {d : Nat} {σ : am_I} {ρ : am_R} {g : am_J} {τ : am_T} {Q : am_Q} {x0 x1 x2 x3 : Value} {v : Int32} : AW d 145 48 [x0, x1, x2, x3] ([.int v]) σ ρ g τ Q = Q (some (.int v)) σ ρ g τ := aw_ri m145 d145_48 rfl
theorem d146_0 : decode cX11_leastYearWith 0 = .ok (.iconst 0, 1) := by decide +kernel
theorem s146_0 {d : Nat} {st : List Value} {σ : am_I} {ρ : am_R} {g : am_J} {τ : am_T} {Q : am_Q} {x0 x1 x2 : Value} : AW d 146 0 [x0, x1, x2] (st) σ ρ g τ Q = AW d 146 1 [x0, x1, x2] (.int 0 :: st) σ ρ g τ Q := aw_lc m146 d146_0 rfl rfl rfl
theorem d146_1 : decode cX11_leastYearWith 1 = .ok (.istore_n 2, 1) := by decide +kernel
theorem s146_1 {d : Nat} {st : List Value} {σ : am_I} {ρ : am_R} {g : am_J} {τ : am_T} {Q : am_Q} {x0 x2 : Value} {v : Int32} {u : Int32} : AW d 146 1 [x0, .int u, x2] (.int v :: st) σ ρ g τ Q = AW d 146 2 [x0, .int u, .int v] (st) σ ρ g τ Q := aw_lc m146 d146_1 rfl rfl rfl
theorem d146_2 : decode cX11_leastYearWith 2 = .ok (.iload_n 2, 1) := by decide +kernel
theorem s146_2 {d : Nat} {st : List Value} {σ : am_I} {ρ : am_R} {g : am_J} {τ : am_T} {Q : am_Q} {x0 x1 : Value} {v : Int32} : AW d 146 2 [x0, x1, .int v] (st) σ ρ g τ Q = AW d 146 3 [x0, x1, .int v] (.int v :: st) σ ρ g τ Q := aw_lc m146 d146_2 rfl rfl rfl
theorem d146_3 : decode cX11_leastYearWith 3 = .ok (.iconst 3, 1) := by decide +kernel
theorem s146_3 {d : Nat} {st : List Value} {σ : am_I} {ρ : am_R} {g : am_J} {τ : am_T} {Q : am_Q} {x0 x1 x2 : Value} : AW d 146 3 [x0, x1, x2] (st) σ ρ g τ Q = AW d 146 4 [x0, x1, x2] (.int 3 :: st) σ ρ g τ Q := aw_lc m146 d146_3 rfl rfl rfl
theorem d146_4 : decode cX11_leastYearWith 4 = .ok (.if_icmp .ge 30, 3) := by decide +kernel
theorem s146_4 {d : Nat} {st : List Value} {σ : am_I} {ρ : am_R} {g : am_J} {τ : am_T} {Q : am_Q} {x0 x1 x2 : Value} {v w : Int32} : AW d 146 4 [x0, x1, x2] (.int w :: .int v :: st) σ ρ g τ Q = if w ≤ v then AW d 146 34 [x0, x1, x2] (st) σ ρ g τ Q else AW d 146 7 [x0, x1, x2] (st) σ ρ g τ Q := aw_br m146 d146_4 rfl rfl rfl
theorem d146_7 : decode cX11_leastYearWith 7 = .ok (.aload_n 0, 1) := by decide +kernel
theorem s146_7 {d : Nat} {st : List Value} {σ : am_I} {ρ : am_R} {g : am_J} {τ : am_T} {Q : am_Q} {x1 x2 : Value} {v : Nat} : AW d 146 7 [.ref v, x1, x2] (st) σ ρ g τ Q = AW d 146 8 [.ref v, x1, x2] (.ref v :: st) σ ρ g τ Q := aw_lc m146 d146_7 rfl rfl rfl
theorem d146_8 : decode cX11_leastYearWith 8 = .ok (.getfield 71, 3) := by decide +kernel
theorem s146_8 {d : Nat} {st : List Value} {σ : am_I} {ρ : am_R} {g : am_J} {τ : am_T} {Q : am_Q} {x0 x1 x2 : Value} {a : Nat} (ht : τ.1 a = 11) : AW d 146 8 [x0, x1, x2] (.ref a :: st) σ ρ g τ Q = AW d 146 11 [x0, x1, x2] (va_rf (ρ a 10) :: st) σ ρ g τ Q := aw_gr m146 d146_8 rfl rfl rfl ht
theorem d146_11 : decode cX11_leastYearWith 11 = .ok (.iload_n 2, 1) := by decide +kernel
theorem s146_11 {d : Nat} {st : List Value} {σ : am_I} {ρ : am_R} {g : am_J} {τ : am_T} {Q : am_Q} {x0 x1 : Value} {v : Int32} : AW d 146 11 [x0, x1, .int v] (st) σ ρ g τ Q = AW d 146 12 [x0, x1, .int v] (.int v :: st) σ ρ g τ Q := aw_lc m146 d146_11 rfl rfl rfl
theorem d146_12 : decode cX11_leastYearWith 12 = .ok (.dup2, 1) := by decide +kernel
theorem s146_12 {d : Nat} {st : List Value} {σ : am_I} {ρ : am_R} {g : am_J} {τ : am_T} {Q : am_Q} {x0 x1 x2 : Value} {v : Int32} {w : Nat} : AW d 146 12 [x0, x1, x2] (.int v :: .ref w :: st) σ ρ g τ Q = AW d 146 13 [x0, x1, x2] (.int v :: .ref w :: .int v :: .ref w :: st) σ ρ g τ Q := aw_lc m146 d146_12 rfl rfl rfl
theorem d146_13 : decode cX11_leastYearWith 13 = .ok (.iaload, 1) := by decide +kernel
theorem s146_13 {d : Nat} {st : List Value} {σ : am_I} {ρ : am_R} {g : am_J} {τ : am_T} {Q : am_Q} {x0 x1 x2 : Value} {a : Nat} {j : Int32} (ht : τ.1 a = 15) (hj : am_inb j (τ.2.1 a) = true) : AW d 146 13 [x0, x1, x2] (.int j :: .ref a :: st) σ ρ g τ Q = AW d 146 14 [x0, x1, x2] (.int (σ a j.toNatClampNeg) :: st) σ ρ g τ Q := aw_ial m146 d146_13 rfl ht hj
theorem d146_14 : decode cX11_leastYearWith 14 = .ok (.aload_n 0, 1) := by decide +kernel
theorem s146_14 {d : Nat} {st : List Value} {σ : am_I} {ρ : am_R} {g : am_J} {τ : am_T} {Q : am_Q} {x1 x2 : Value} {v : Nat} : AW d 146 14 [.ref v, x1, x2] (st) σ ρ g τ Q = AW d 146 15 [.ref v, x1, x2] (.ref v :: st) σ ρ g τ Q := aw_lc m146 d146_14 rfl rfl rfl
theorem d146_15 : decode cX11_leastYearWith 15 = .ok (.getfield 10, 3) := by decide +kernel
theorem s146_15 {d : Nat} {st : List Value} {σ : am_I} {ρ : am_R} {g : am_J} {τ : am_T} {Q : am_Q} {x0 x1 x2 : Value} {a : Nat} (ht : τ.1 a = 11) : AW d 146 15 [x0, x1, x2] (.ref a :: st) σ ρ g τ Q = AW d 146 18 [x0, x1, x2] (va_rf (ρ a 0) :: st) σ ρ g τ Q := aw_gr m146 d146_15 rfl rfl rfl ht
theorem d146_18 : decode cX11_leastYearWith 18 = .ok (.getfield 387, 3) := by decide +kernel
theorem s146_18 {d : Nat} {st : List Value} {σ : am_I} {ρ : am_R} {g : am_J} {τ : am_T} {Q : am_Q} {x0 x1 x2 : Value} {a : Nat} (ht : τ.1 a = 3) : AW d 146 18 [x0, x1, x2] (.ref a :: st) σ ρ g τ Q = AW d 146 21 [x0, x1, x2] (va_rf (ρ a 15) :: st) σ ρ g τ Q := aw_gr m146 d146_18 rfl rfl rfl ht
theorem d146_21 : decode cX11_leastYearWith 21 = .ok (.iload_n 1, 1) := by decide +kernel
theorem s146_21 {d : Nat} {st : List Value} {σ : am_I} {ρ : am_R} {g : am_J} {τ : am_T} {Q : am_Q} {x0 x2 : Value} {v : Int32} : AW d 146 21 [x0, .int v, x2] (st) σ ρ g τ Q = AW d 146 22 [x0, .int v, x2] (.int v :: st) σ ρ g τ Q := aw_lc m146 d146_21 rfl rfl rfl
theorem d146_22 : decode cX11_leastYearWith 22 = .ok (.iload_n 2, 1) := by decide +kernel
theorem s146_22 {d : Nat} {st : List Value} {σ : am_I} {ρ : am_R} {g : am_J} {τ : am_T} {Q : am_Q} {x0 x1 : Value} {v : Int32} : AW d 146 22 [x0, x1, .int v] (st) σ ρ g τ Q = AW d 146 23 [x0, x1, .int v] (.int v :: st) σ ρ g τ Q := aw_lc m146 d146_22 rfl rfl rfl
theorem d146_23 : decode cX11_leastYearWith 23 = .ok (.invokevirtual 339, 3) := by decide +kernel
theorem s146_23 {d : Nat} {st : List Value} {σ : am_I} {ρ : am_R} {g : am_J} {τ : am_T} {Q : am_Q} {x0 x1 x2 : Value} {p0 : Nat} {p1 : Int32} {p2 : Int32} (ht : τ.1 p0 = 4) (hs : st.length ≤ 4) : AW (d + 1) 146 23 [x0, x1, x2] (.int p2 :: .int p1 :: .ref p0 :: st) σ ρ g τ Q = AW d 46 0 [.ref p0, .int p1, .int p2] [] σ ρ g τ (fun r9 σ ρ g τ => AW (d + 1) 146 26 [x0, x1, x2] (r9.toList ++ st) σ ρ g τ Q) := aw_cv m146 d146_23 rfl m46 rfl rfl (by decide) en46 ok46 rfl ht hs
theorem d146_26 : decode cX11_leastYearWith 26 = .ok (.iadd, 1) := by decide +kernel
theorem s146_26 {d : Nat} {st : List Value} {σ : am_I} {ρ : am_R} {g : am_J} {τ : am_T} {Q : am_Q} {x0 x1 x2 : Value} {v w : Int32} : AW d 146 26 [x0, x1, x2] (.int w :: .int v :: st) σ ρ g τ Q = AW d 146 27 [x0, x1, x2] (.int (v + w) :: st) σ ρ g τ Q := aw_lc m146 d146_26 rfl rfl rfl
theorem d146_27 : decode cX11_leastYearWith 27 = .ok (.iastore, 1) := by decide +kernel
theorem s146_27 {d : Nat} {st : List Value} {σ : am_I} {ρ : am_R} {g : am_J} {τ : am_T} {Q : am_Q} {x0 x1 x2 : Value} {a : Nat} {j v : Int32} (ht : τ.1 a = 15) (ha : a < am_BG) (hj : am_inb j (τ.2.1 a) = true) : AW d 146 27 [x0, x1, x2] (.int v :: .int j :: .ref a :: st) σ ρ g τ Q = AW d 146 28 [x0, x1, x2] (st) (am_u σ a j.toNatClampNeg v) ρ g τ Q := aw_ias m146 d146_27 rfl ht ha hj
theorem d146_28 : decode cX11_leastYearWith 28 = .ok (.iinc 2 1, 3) := by decide +kernel
theorem s146_28 {d : Nat} {st : List Value} {σ : am_I} {ρ : am_R} {g : am_J} {τ : am_T} {Q : am_Q} {x0 : Value} {v : Int32} {u : Int32} : AW d 146 28 [x0, .int u, .int v] (st) σ ρ g τ Q = AW d 146 31 [x0, .int u, .int (v + 1)] (st) σ ρ g τ Q := aw_lc m146 d146_28 rfl rfl rfl
theorem d146_31 : decode cX11_leastYearWith 31 = .ok (.goto (-29), 3) := by decide +kernel
theorem s146_31 {d : Nat} {st : List Value} {σ : am_I} {ρ : am_R} {g : am_J} {τ : am_T} {Q : am_Q} {x0 x1 x2 : Value} : AW d 146 31 [x0, x1, x2] (st) σ ρ g τ Q = AW d 146 2 [x0, x1, x2] (st) σ ρ g τ Q := aw_lc m146 d146_31 rfl rfl rfl
theorem d146_34 : decode cX11_leastYearWith 34 = .ok (.aload_n 0, 1) := by decide +kernel
theorem s146_34 {d : Nat} {st : List Value} {σ : am_I} {ρ : am_R} {g : am_J} {τ : am_T} {Q : am_Q} {x1 x2 : Value} {v : Nat} : AW d 146 34 [.ref v, x1, x2] (st) σ ρ g τ Q = AW d 146 35 [.ref v, x1, x2] (.ref v :: st) σ ρ g τ Q := aw_lc m146 d146_34 rfl rfl rfl
theorem d146_35 : decode cX11_leastYearWith 35 = .ok (.getfield 71, 3) := by decide +kernel
theorem s146_35 {d : Nat} {st : List Value} {σ : am_I} {ρ : am_R} {g : am_J} {τ : am_T} {Q : am_Q} {x0 x1 x2 : Value} {a : Nat} (ht : τ.1 a = 11) : AW d 146 35 [x0, x1, x2] (.ref a :: st) σ ρ g τ Q = AW d 146 38 [x0, x1, x2] (va_rf (ρ a 10) :: st) σ ρ g τ Q := aw_gr m146 d146_35 rfl rfl rfl ht
theorem d146_38 : decode cX11_leastYearWith 38 = .ok (.iconst 0, 1) := by decide +kernel
theorem s146_38 {d : Nat} {st : List Value} {σ : am_I} {ρ : am_R} {g : am_J} {τ : am_T} {Q : am_Q} {x0 x1 x2 : Value} : AW d 146 38 [x0, x1, x2] (st) σ ρ g τ Q = AW d 146 39 [x0, x1, x2] (.int 0 :: st) σ ρ g τ Q := aw_lc m146 d146_38 rfl rfl rfl
theorem d146_39 : decode cX11_leastYearWith 39 = .ok (.iaload, 1) := by decide +kernel
theorem s146_39 {d : Nat} {st : List Value} {σ : am_I} {ρ : am_R} {g : am_J} {τ : am_T} {Q : am_Q} {x0 x1 x2 : Value} {a : Nat} {j : Int32} (ht : τ.1 a = 15) (hj : am_inb j (τ.2.1 a) = true) : AW d 146 39 [x0, x1, x2] (.int j :: .ref a :: st) σ ρ g τ Q = AW d 146 40 [x0, x1, x2] (.int (σ a j.toNatClampNeg) :: st) σ ρ g τ Q := aw_ial m146 d146_39 rfl ht hj
theorem d146_40 : decode cX11_leastYearWith 40 = .ok (.aload_n 0, 1) := by decide +kernel
theorem s146_40 {d : Nat} {st : List Value} {σ : am_I} {ρ : am_R} {g : am_J} {τ : am_T} {Q : am_Q} {x1 x2 : Value} {v : Nat} : AW d 146 40 [.ref v, x1, x2] (st) σ ρ g τ Q = AW d 146 41 [.ref v, x1, x2] (.ref v :: st) σ ρ g τ Q := aw_lc m146 d146_40 rfl rfl rfl
theorem d146_41 : decode cX11_leastYearWith 41 = .ok (.getfield 71, 3) := by decide +kernel
theorem s146_41 {d : Nat} {st : List Value} {σ : am_I} {ρ : am_R} {g : am_J} {τ : am_T} {Q : am_Q} {x0 x1 x2 : Value} {a : Nat} (ht : τ.1 a = 11) : AW d 146 41 [x0, x1, x2] (.ref a :: st) σ ρ g τ Q = AW d 146 44 [x0, x1, x2] (va_rf (ρ a 10) :: st) σ ρ g τ Q := aw_gr m146 d146_41 rfl rfl rfl ht
theorem d146_44 : decode cX11_leastYearWith 44 = .ok (.iconst 1, 1) := by decide +kernel
theorem s146_44 {d : Nat} {st : List Value} {σ : am_I} {ρ : am_R} {g : am_J} {τ : am_T} {Q : am_Q} {x0 x1 x2 : Value} : AW d 146 44 [x0, x1, x2] (st) σ ρ g τ Q = AW d 146 45 [x0, x1, x2] (.int 1 :: st) σ ρ g τ Q := aw_lc m146 d146_44 rfl rfl rfl
theorem d146_45 : decode cX11_leastYearWith 45 = .ok (.iaload, 1) := by decide +kernel
theorem s146_45 {d : Nat} {st : List Value} {σ : am_I} {ρ : am_R} {g : am_J} {τ : am_T} {Q : am_Q} {x0 x1 x2 : Value} {a : Nat} {j : Int32} (ht : τ.1 a = 15) (hj : am_inb j (τ.2.1 a) = true) : AW d 146 45 [x0, x1, x2] (.int j :: .ref a :: st) σ ρ g τ Q = AW d 146 46 [x0, x1, x2] (.int (σ a j.toNatClampNeg) :: st) σ ρ g τ Q := aw_ial m146 d146_45 rfl ht hj
theorem d146_46 : decode cX11_leastYearWith 46 = .ok (.aload_n 0, 1) := by decide +kernel
theorem s146_46 {d : Nat} {st : List Value} {σ : am_I} {ρ : am_R} {g : am_J} {τ : am_T} {Q : am_Q} {x1 x2 : Value} {v : Nat} : AW d 146 46 [.ref v, x1, x2] (st) σ ρ g τ Q = AW d 146 47 [.ref v, x1, x2] (.ref v :: st) σ ρ g τ Q := aw_lc m146 d146_46 rfl rfl rfl
theorem d146_47 : decode cX11_leastYearWith 47 = .ok (.getfield 71, 3) := by decide +kernel
theorem s146_47 {d : Nat} {st : List Value} {σ : am_I} {ρ : am_R} {g : am_J} {τ : am_T} {Q : am_Q} {x0 x1 x2 : Value} {a : Nat} (ht : τ.1 a = 11) : AW d 146 47 [x0, x1, x2] (.ref a :: st) σ ρ g τ Q = AW d 146 50 [x0, x1, x2] (va_rf (ρ a 10) :: st) σ ρ g τ Q := aw_gr m146 d146_47 rfl rfl rfl ht
theorem d146_50 : decode cX11_leastYearWith 50 = .ok (.iconst 2, 1) := by decide +kernel
theorem s146_50 {d : Nat} {st : List Value} {σ : am_I} {ρ : am_R} {g : am_J} {τ : am_T} {Q : am_Q} {x0 x1 x2 : Value} : AW d 146 50 [x0, x1, x2] (st) σ ρ g τ Q = AW d 146 51 [x0, x1, x2] (.int 2 :: st) σ ρ g τ Q := aw_lc m146 d146_50 rfl rfl rfl
theorem d146_51 : decode cX11_leastYearWith 51 = .ok (.iaload, 1) := by decide +kernel
theorem s146_51 {d : Nat} {st : List Value} {σ : am_I} {ρ : am_R} {g : am_J} {τ : am_T} {Q : am_Q} {x0 x1 x2 : Value} {a : Nat} {j : Int32} (ht : τ.1 a = 15) (hj : am_inb j (τ.2.1 a) = true) : AW d 146 51 [x0, x1, x2] (.int j :: .ref a :: st) σ ρ g τ Q = AW d 146 52 [x0, x1, x2] (.int (σ a j.toNatClampNeg) :: st) σ ρ g τ Q := aw_ial m146 d146_51 rfl ht hj
theorem d146_52 : decode cX11_leastYearWith 52 = .ok (.invokestatic 169, 3) := by decide +kernel
theorem s146_52 {d : Nat} {st : List Value} {σ : am_I} {ρ : am_R} {g : am_J} {τ : am_T} {Q : am_Q} {x0 x1 x2 : Value} {v w : Int32} (hs : st.length ≤ 4) : AW d 146 52 [x0, x1, x2] (.int w :: .int v :: st) σ ρ g τ Q = AW d 146 55 [x0, x1, x2] (.int (if w < v then w else v) :: st) σ ρ g τ Q := aw_min m146 d146_52 rfl rfl hs
theorem d146_55 : decode cX11_leastYearWith 55 = .ok (.invokestatic 169, 3) := by decide +kernel
theorem s146_55 {d : Nat} {st : List Value} {σ : am_I} {ρ : am_R} {g : am_J} {τ : am_T} {Q : am_Q} {x0 x1 x2 : Value} {v w : Int32} (hs : st.length ≤ 4) : AW d 146 55 [x0, x1, x2] (.int w :: .int v :: st) σ ρ g τ Q = AW d 146 58 [x0, x1, x2] (.int (if w < v then w else v) :: st) σ ρ g τ Q := aw_min m146 d146_55 rfl rfl hs
theorem d146_58 : decode cX11_leastYearWith 58 = .ok (.ireturn, 1) := by decide +kernel
theorem s146_58 {d : Nat} {σ : am_I} {ρ : am_R} {g : am_J} {τ : am_T} {Q : am_Q} {x0 x1 x2 : Value} {v : Int32} : AW d 146 58 [x0, x1, x2] ([.int v]) σ ρ g τ Q = Q (some (.int v)) σ ρ g τ := aw_ri m146 d146_58 rfl
theorem d147_0 : decode cX11_sinksOf 0 = .ok (.iconst 0, 1) := by decide +kernel
theorem s147_0 {d : Nat} {st : List Value} {σ : am_I} {ρ : am_R} {g : am_J} {τ : am_T} {Q : am_Q} {x0 x1 x2 x3 : Value} : AW d 147 0 [x0, x1, x2, x3] (st) σ ρ g τ Q = AW d 147 1 [x0, x1, x2, x3] (.int 0 :: st) σ ρ g τ Q := aw_lc m147 d147_0 rfl rfl rfl
theorem d147_1 : decode cX11_sinksOf 1 = .ok (.istore_n 2, 1) := by decide +kernel
theorem s147_1 {d : Nat} {st : List Value} {σ : am_I} {ρ : am_R} {g : am_J} {τ : am_T} {Q : am_Q} {x0 x2 x3 : Value} {v : Int32} {u : Int32} : AW d 147 1 [x0, .int u, x2, x3] (.int v :: st) σ ρ g τ Q = AW d 147 2 [x0, .int u, .int v, x3] (st) σ ρ g τ Q := aw_lc m147 d147_1 rfl rfl rfl
theorem d147_2 : decode cX11_sinksOf 2 = .ok (.iconst 0, 1) := by decide +kernel
theorem s147_2 {d : Nat} {st : List Value} {σ : am_I} {ρ : am_R} {g : am_J} {τ : am_T} {Q : am_Q} {x0 x1 x2 x3 : Value} : AW d 147 2 [x0, x1, x2, x3] (st) σ ρ g τ Q = AW d 147 3 [x0, x1, x2, x3] (.int 0 :: st) σ ρ g τ Q := aw_lc m147 d147_2 rfl rfl rfl
theorem d147_3 : decode cX11_sinksOf 3 = .ok (.istore_n 3, 1) := by decide +kernel
theorem s147_3 {d : Nat} {st : List Value} {σ : am_I} {ρ : am_R} {g : am_J} {τ : am_T} {Q : am_Q} {x0 x1 x3 : Value} {v : Int32} {u : Int32} : AW d 147 3 [x0, x1, .int u, x3] (.int v :: st) σ ρ g τ Q = AW d 147 4 [x0, x1, .int u, .int v] (st) σ ρ g τ Q := aw_lc m147 d147_3 rfl rfl rfl
theorem d147_4 : decode cX11_sinksOf 4 = .ok (.iload_n 3, 1) := by decide +kernel
theorem s147_4 {d : Nat} {st : List Value} {σ : am_I} {ρ : am_R} {g : am_J} {τ : am_T} {Q : am_Q} {x0 x1 x2 : Value} {v : Int32} : AW d 147 4 [x0, x1, x2, .int v] (st) σ ρ g τ Q = AW d 147 5 [x0, x1, x2, .int v] (.int v :: st) σ ρ g τ Q := aw_lc m147 d147_4 rfl rfl rfl
theorem d147_5 : decode cX11_sinksOf 5 = .ok (.aload_n 0, 1) := by decide +kernel
theorem s147_5 {d : Nat} {st : List Value} {σ : am_I} {ρ : am_R} {g : am_J} {τ : am_T} {Q : am_Q} {x1 x2 x3 : Value} {v : Nat} : AW d 147 5 [.ref v, x1, x2, x3] (st) σ ρ g τ Q = AW d 147 6 [.ref v, x1, x2, x3] (.ref v :: st) σ ρ g τ Q := aw_lc m147 d147_5 rfl rfl rfl
theorem d147_6 : decode cX11_sinksOf 6 = .ok (.getfield 10, 3) := by decide +kernel
theorem s147_6 {d : Nat} {st : List Value} {σ : am_I} {ρ : am_R} {g : am_J} {τ : am_T} {Q : am_Q} {x0 x1 x2 x3 : Value} {a : Nat} (ht : τ.1 a = 11) : AW d 147 6 [x0, x1, x2, x3] (.ref a :: st) σ ρ g τ Q = AW d 147 9 [x0, x1, x2, x3] (va_rf (ρ a 0) :: st) σ ρ g τ Q := aw_gr m147 d147_6 rfl rfl rfl ht
theorem d147_9 : decode cX11_sinksOf 9 = .ok (.getfield 387, 3) := by decide +kernel
theorem s147_9 {d : Nat} {st : List Value} {σ : am_I} {ρ : am_R} {g : am_J} {τ : am_T} {Q : am_Q} {x0 x1 x2 x3 : Value} {a : Nat} (ht : τ.1 a = 3) : AW d 147 9 [x0, x1, x2, x3] (.ref a :: st) σ ρ g τ Q = AW d 147 12 [x0, x1, x2, x3] (va_rf (ρ a 15) :: st) σ ρ g τ Q := aw_gr m147 d147_9 rfl rfl rfl ht
theorem d147_12 : decode cX11_sinksOf 12 = .ok (.getfield 359, 3) := by decide +kernel
theorem s147_12 {d : Nat} {st : List Value} {σ : am_I} {ρ : am_R} {g : am_J} {τ : am_T} {Q : am_Q} {x0 x1 x2 x3 : Value} {a : Nat} (ht : τ.1 a = 4) : AW d 147 12 [x0, x1, x2, x3] (.ref a :: st) σ ρ g τ Q = AW d 147 15 [x0, x1, x2, x3] (.int (σ a 3) :: st) σ ρ g τ Q := aw_gi m147 d147_12 rfl rfl rfl ht
theorem d147_15 : decode cX11_sinksOf 15 = .ok (.if_icmp .ge 33, 3) := by decide +kernel
theorem s147_15 {d : Nat} {st : List Value} {σ : am_I} {ρ : am_R} {g : am_J} {τ : am_T} {Q : am_Q} {x0 x1 x2 x3 : Value} {v w : Int32} : AW d 147 15 [x0, x1, x2, x3] (.int w :: .int v :: st) σ ρ g τ Q = if w ≤ v then AW d 147 48 [x0, x1, x2, x3] (st) σ ρ g τ Q else AW d 147 18 [x0, x1, x2, x3] (st) σ ρ g τ Q := aw_br m147 d147_15 rfl rfl rfl
theorem d147_18 : decode cX11_sinksOf 18 = .ok (.iload_n 1, 1) := by decide +kernel
theorem s147_18 {d : Nat} {st : List Value} {σ : am_I} {ρ : am_R} {g : am_J} {τ : am_T} {Q : am_Q} {x0 x2 x3 : Value} {v : Int32} : AW d 147 18 [x0, .int v, x2, x3] (st) σ ρ g τ Q = AW d 147 19 [x0, .int v, x2, x3] (.int v :: st) σ ρ g τ Q := aw_lc m147 d147_18 rfl rfl rfl
theorem d147_19 : decode cX11_sinksOf 19 = .ok (.iload_n 3, 1) := by decide +kernel
theorem s147_19 {d : Nat} {st : List Value} {σ : am_I} {ρ : am_R} {g : am_J} {τ : am_T} {Q : am_Q} {x0 x1 x2 : Value} {v : Int32} : AW d 147 19 [x0, x1, x2, .int v] (st) σ ρ g τ Q = AW d 147 20 [x0, x1, x2, .int v] (.int v :: st) σ ρ g τ Q := aw_lc m147 d147_19 rfl rfl rfl
theorem d147_20 : decode cX11_sinksOf 20 = .ok (.ishr, 1) := by decide +kernel
theorem s147_20 {d : Nat} {st : List Value} {σ : am_I} {ρ : am_R} {g : am_J} {τ : am_T} {Q : am_Q} {x0 x1 x2 x3 : Value} {v w : Int32} : AW d 147 20 [x0, x1, x2, x3] (.int w :: .int v :: st) σ ρ g τ Q = AW d 147 21 [x0, x1, x2, x3] (.int (v >>> (w &&& 31)) :: st) σ ρ g τ Q := aw_lc m147 d147_20 rfl rfl rfl
theorem d147_21 : decode cX11_sinksOf 21 = .ok (.iconst 1, 1) := by decide +kernel
theorem s147_21 {d : Nat} {st : List Value} {σ : am_I} {ρ : am_R} {g : am_J} {τ : am_T} {Q : am_Q} {x0 x1 x2 x3 : Value} : AW d 147 21 [x0, x1, x2, x3] (st) σ ρ g τ Q = AW d 147 22 [x0, x1, x2, x3] (.int 1 :: st) σ ρ g τ Q := aw_lc m147 d147_21 rfl rfl rfl
theorem d147_22 : decode cX11_sinksOf 22 = .ok (.iand, 1) := by decide +kernel
theorem s147_22 {d : Nat} {st : List Value} {σ : am_I} {ρ : am_R} {g : am_J} {τ : am_T} {Q : am_Q} {x0 x1 x2 x3 : Value} {v w : Int32} : AW d 147 22 [x0, x1, x2, x3] (.int w :: .int v :: st) σ ρ g τ Q = AW d 147 23 [x0, x1, x2, x3] (.int (v &&& w) :: st) σ ρ g τ Q := aw_lc m147 d147_22 rfl rfl rfl
theorem d147_23 : decode cX11_sinksOf 23 = .ok (.iconst 1, 1) := by decide +kernel
theorem s147_23 {d : Nat} {st : List Value} {σ : am_I} {ρ : am_R} {g : am_J} {τ : am_T} {Q : am_Q} {x0 x1 x2 x3 : Value} : AW d 147 23 [x0, x1, x2, x3] (st) σ ρ g τ Q = AW d 147 24 [x0, x1, x2, x3] (.int 1 :: st) σ ρ g τ Q := aw_lc m147 d147_23 rfl rfl rfl
theorem d147_24 : decode cX11_sinksOf 24 = .ok (.if_icmp .ne 18, 3) := by decide +kernel
theorem s147_24 {d : Nat} {st : List Value} {σ : am_I} {ρ : am_R} {g : am_J} {τ : am_T} {Q : am_Q} {x0 x1 x2 x3 : Value} {v w : Int32} : AW d 147 24 [x0, x1, x2, x3] (.int w :: .int v :: st) σ ρ g τ Q = if ¬ v = w then AW d 147 42 [x0, x1, x2, x3] (st) σ ρ g τ Q else AW d 147 27 [x0, x1, x2, x3] (st) σ ρ g τ Q := aw_br m147 d147_24 rfl rfl rfl
theorem d147_27 : decode cX11_sinksOf 27 = .ok (.iload_n 2, 1) := by decide +kernel
theorem s147_27 {d : Nat} {st : List Value} {σ : am_I} {ρ : am_R} {g : am_J} {τ : am_T} {Q : am_Q} {x0 x1 x3 : Value} {v : Int32} : AW d 147 27 [x0, x1, .int v, x3] (st) σ ρ g τ Q = AW d 147 28 [x0, x1, .int v, x3] (.int v :: st) σ ρ g τ Q := aw_lc m147 d147_27 rfl rfl rfl
theorem d147_28 : decode cX11_sinksOf 28 = .ok (.aload_n 0, 1) := by decide +kernel
theorem s147_28 {d : Nat} {st : List Value} {σ : am_I} {ρ : am_R} {g : am_J} {τ : am_T} {Q : am_Q} {x1 x2 x3 : Value} {v : Nat} : AW d 147 28 [.ref v, x1, x2, x3] (st) σ ρ g τ Q = AW d 147 29 [.ref v, x1, x2, x3] (.ref v :: st) σ ρ g τ Q := aw_lc m147 d147_28 rfl rfl rfl
theorem d147_29 : decode cX11_sinksOf 29 = .ok (.getfield 10, 3) := by decide +kernel
theorem s147_29 {d : Nat} {st : List Value} {σ : am_I} {ρ : am_R} {g : am_J} {τ : am_T} {Q : am_Q} {x0 x1 x2 x3 : Value} {a : Nat} (ht : τ.1 a = 11) : AW d 147 29 [x0, x1, x2, x3] (.ref a :: st) σ ρ g τ Q = AW d 147 32 [x0, x1, x2, x3] (va_rf (ρ a 0) :: st) σ ρ g τ Q := aw_gr m147 d147_29 rfl rfl rfl ht
theorem d147_32 : decode cX11_sinksOf 32 = .ok (.getfield 387, 3) := by decide +kernel
theorem s147_32 {d : Nat} {st : List Value} {σ : am_I} {ρ : am_R} {g : am_J} {τ : am_T} {Q : am_Q} {x0 x1 x2 x3 : Value} {a : Nat} (ht : τ.1 a = 3) : AW d 147 32 [x0, x1, x2, x3] (.ref a :: st) σ ρ g τ Q = AW d 147 35 [x0, x1, x2, x3] (va_rf (ρ a 15) :: st) σ ρ g τ Q := aw_gr m147 d147_32 rfl rfl rfl ht
theorem d147_35 : decode cX11_sinksOf 35 = .ok (.iload_n 3, 1) := by decide +kernel
theorem s147_35 {d : Nat} {st : List Value} {σ : am_I} {ρ : am_R} {g : am_J} {τ : am_T} {Q : am_Q} {x0 x1 x2 : Value} {v : Int32} : AW d 147 35 [x0, x1, x2, .int v] (st) σ ρ g τ Q = AW d 147 36 [x0, x1, x2, .int v] (.int v :: st) σ ρ g τ Q := aw_lc m147 d147_35 rfl rfl rfl
theorem d147_36 : decode cX11_sinksOf 36 = .ok (.iconst 3, 1) := by decide +kernel
theorem s147_36 {d : Nat} {st : List Value} {σ : am_I} {ρ : am_R} {g : am_J} {τ : am_T} {Q : am_Q} {x0 x1 x2 x3 : Value} : AW d 147 36 [x0, x1, x2, x3] (st) σ ρ g τ Q = AW d 147 37 [x0, x1, x2, x3] (.int 3 :: st) σ ρ g τ Q := aw_lc m147 d147_36 rfl rfl rfl
theorem d147_37 : decode cX11_sinksOf 37 = .ok (.invokevirtual 339, 3) := by decide +kernel
theorem s147_37 {d : Nat} {st : List Value} {σ : am_I} {ρ : am_R} {g : am_J} {τ : am_T} {Q : am_Q} {x0 x1 x2 x3 : Value} {p0 : Nat} {p1 : Int32} {p2 : Int32} (ht : τ.1 p0 = 4) (hs : st.length ≤ 4) : AW (d + 1) 147 37 [x0, x1, x2, x3] (.int p2 :: .int p1 :: .ref p0 :: st) σ ρ g τ Q = AW d 46 0 [.ref p0, .int p1, .int p2] [] σ ρ g τ (fun r9 σ ρ g τ => AW (d + 1) 147 40 [x0, x1, x2, x3] (r9.toList ++ st) σ ρ g τ Q) := aw_cv m147 d147_37 rfl m46 rfl rfl (by decide) en46 ok46 rfl ht hs
theorem d147_40 : decode cX11_sinksOf 40 = .ok (.iadd, 1) := by decide +kernel
theorem s147_40 {d : Nat} {st : List Value} {σ : am_I} {ρ : am_R} {g : am_J} {τ : am_T} {Q : am_Q} {x0 x1 x2 x3 : Value} {v w : Int32} : AW d 147 40 [x0, x1, x2, x3] (.int w :: .int v :: st) σ ρ g τ Q = AW d 147 41 [x0, x1, x2, x3] (.int (v + w) :: st) σ ρ g τ Q := aw_lc m147 d147_40 rfl rfl rfl
theorem d147_41 : decode cX11_sinksOf 41 = .ok (.istore_n 2, 1) := by decide +kernel
theorem s147_41 {d : Nat} {st : List Value} {σ : am_I} {ρ : am_R} {g : am_J} {τ : am_T} {Q : am_Q} {x0 x2 x3 : Value} {v : Int32} {u : Int32} : AW d 147 41 [x0, .int u, x2, x3] (.int v :: st) σ ρ g τ Q = AW d 147 42 [x0, .int u, .int v, x3] (st) σ ρ g τ Q := aw_lc m147 d147_41 rfl rfl rfl
theorem d147_42 : decode cX11_sinksOf 42 = .ok (.iinc 3 1, 3) := by decide +kernel
theorem s147_42 {d : Nat} {st : List Value} {σ : am_I} {ρ : am_R} {g : am_J} {τ : am_T} {Q : am_Q} {x0 x1 : Value} {v : Int32} {u : Int32} : AW d 147 42 [x0, x1, .int u, .int v] (st) σ ρ g τ Q = AW d 147 45 [x0, x1, .int u, .int (v + 1)] (st) σ ρ g τ Q := aw_lc m147 d147_42 rfl rfl rfl
theorem d147_45 : decode cX11_sinksOf 45 = .ok (.goto (-41), 3) := by decide +kernel
theorem s147_45 {d : Nat} {st : List Value} {σ : am_I} {ρ : am_R} {g : am_J} {τ : am_T} {Q : am_Q} {x0 x1 x2 x3 : Value} : AW d 147 45 [x0, x1, x2, x3] (st) σ ρ g τ Q = AW d 147 4 [x0, x1, x2, x3] (st) σ ρ g τ Q := aw_lc m147 d147_45 rfl rfl rfl
theorem d147_48 : decode cX11_sinksOf 48 = .ok (.iload_n 2, 1) := by decide +kernel
theorem s147_48 {d : Nat} {st : List Value} {σ : am_I} {ρ : am_R} {g : am_J} {τ : am_T} {Q : am_Q} {x0 x1 x3 : Value} {v : Int32} : AW d 147 48 [x0, x1, .int v, x3] (st) σ ρ g τ Q = AW d 147 49 [x0, x1, .int v, x3] (.int v :: st) σ ρ g τ Q := aw_lc m147 d147_48 rfl rfl rfl
theorem d147_49 : decode cX11_sinksOf 49 = .ok (.ireturn, 1) := by decide +kernel
theorem s147_49 {d : Nat} {σ : am_I} {ρ : am_R} {g : am_J} {τ : am_T} {Q : am_Q} {x0 x1 x2 x3 : Value} {v : Int32} : AW d 147 49 [x0, x1, x2, x3] ([.int v]) σ ρ g τ Q = Q (some (.int v)) σ ρ g τ := aw_ri m147 d147_49 rfl
theorem d148_0 : decode cX11_tellRows 0 = .ok (.aload_n 0, 1) := by decide +kernel
theorem s148_0 {d : Nat} {st : List Value} {σ : am_I} {ρ : am_R} {g : am_J} {τ : am_T} {Q : am_Q} {x1 x2 x3 : Value} {v : Nat} : AW d 148 0 [.ref v, x1, x2, x3] (st) σ ρ g τ Q = AW d 148 1 [.ref v, x1, x2, x3] (.ref v :: st) σ ρ g τ Q := aw_lc m148 d148_0 rfl rfl rfl
theorem d148_1 : decode cX11_tellRows 1 = .ok (.getfield 49, 3) := by decide +kernel
theorem s148_1 {d : Nat} {st : List Value} {σ : am_I} {ρ : am_R} {g : am_J} {τ : am_T} {Q : am_Q} {x0 x1 x2 x3 : Value} {a : Nat} (ht : τ.1 a = 11) : AW d 148 1 [x0, x1, x2, x3] (.ref a :: st) σ ρ g τ Q = AW d 148 4 [x0, x1, x2, x3] (va_rf (ρ a 6) :: st) σ ρ g τ Q := aw_gr m148 d148_1 rfl rfl rfl ht
theorem d148_4 : decode cX11_tellRows 4 = .ok (.iconst 0, 1) := by decide +kernel
theorem s148_4 {d : Nat} {st : List Value} {σ : am_I} {ρ : am_R} {g : am_J} {τ : am_T} {Q : am_Q} {x0 x1 x2 x3 : Value} : AW d 148 4 [x0, x1, x2, x3] (st) σ ρ g τ Q = AW d 148 5 [x0, x1, x2, x3] (.int 0 :: st) σ ρ g τ Q := aw_lc m148 d148_4 rfl rfl rfl
theorem d148_5 : decode cX11_tellRows 5 = .ok (.putfield 359, 3) := by decide +kernel
theorem s148_5 {d : Nat} {st : List Value} {σ : am_I} {ρ : am_R} {g : am_J} {τ : am_T} {Q : am_Q} {x0 x1 x2 x3 : Value} {a : Nat} {v : Int32} (ht : τ.1 a = 4) : AW d 148 5 [x0, x1, x2, x3] (.int v :: .ref a :: st) σ ρ g τ Q = AW d 148 8 [x0, x1, x2, x3] (st) (am_u σ a 3 v) ρ g τ Q := aw_pi m148 d148_5 rfl rfl (Or.inl rfl) rfl ht
theorem d148_8 : decode cX11_tellRows 8 = .ok (.aload_n 0, 1) := by decide +kernel
theorem s148_8 {d : Nat} {st : List Value} {σ : am_I} {ρ : am_R} {g : am_J} {τ : am_T} {Q : am_Q} {x1 x2 x3 : Value} {v : Nat} : AW d 148 8 [.ref v, x1, x2, x3] (st) σ ρ g τ Q = AW d 148 9 [.ref v, x1, x2, x3] (.ref v :: st) σ ρ g τ Q := aw_lc m148 d148_8 rfl rfl rfl
theorem d148_9 : decode cX11_tellRows 9 = .ok (.getfield 71, 3) := by decide +kernel
theorem s148_9 {d : Nat} {st : List Value} {σ : am_I} {ρ : am_R} {g : am_J} {τ : am_T} {Q : am_Q} {x0 x1 x2 x3 : Value} {a : Nat} (ht : τ.1 a = 11) : AW d 148 9 [x0, x1, x2, x3] (.ref a :: st) σ ρ g τ Q = AW d 148 12 [x0, x1, x2, x3] (va_rf (ρ a 10) :: st) σ ρ g τ Q := aw_gr m148 d148_9 rfl rfl rfl ht
theorem d148_12 : decode cX11_tellRows 12 = .ok (.iconst 0, 1) := by decide +kernel
theorem s148_12 {d : Nat} {st : List Value} {σ : am_I} {ρ : am_R} {g : am_J} {τ : am_T} {Q : am_Q} {x0 x1 x2 x3 : Value} : AW d 148 12 [x0, x1, x2, x3] (st) σ ρ g τ Q = AW d 148 13 [x0, x1, x2, x3] (.int 0 :: st) σ ρ g τ Q := aw_lc m148 d148_12 rfl rfl rfl
theorem d148_13 : decode cX11_tellRows 13 = .ok (.invokestatic 399, 3) := by decide +kernel
theorem s148_13 {d : Nat} {st : List Value} {σ : am_I} {ρ : am_R} {g : am_J} {τ : am_T} {Q : am_Q} {x0 x1 x2 x3 : Value} {p0 : Nat} {p1 : Int32} (hs : st.length ≤ 4) : AW (d + 1) 148 13 [x0, x1, x2, x3] (.int p1 :: .ref p0 :: st) σ ρ g τ Q = AW d 275 0 [.ref p0, .int p1, am_jk, am_jk] [] σ ρ g τ (fun r9 σ ρ g τ => AW (d + 1) 148 16 [x0, x1, x2, x3] (r9.toList ++ st) σ ρ g τ Q) := aw_cs m148 d148_13 rfl (by simp only [List.length_cons]; omega) rfl rfl en275 ok275 rfl hs
theorem d148_16 : decode cX11_tellRows 16 = .ok (.iconst 0, 1) := by decide +kernel
theorem s148_16 {d : Nat} {st : List Value} {σ : am_I} {ρ : am_R} {g : am_J} {τ : am_T} {Q : am_Q} {x0 x1 x2 x3 : Value} : AW d 148 16 [x0, x1, x2, x3] (st) σ ρ g τ Q = AW d 148 17 [x0, x1, x2, x3] (.int 0 :: st) σ ρ g τ Q := aw_lc m148 d148_16 rfl rfl rfl
theorem d148_17 : decode cX11_tellRows 17 = .ok (.istore_n 2, 1) := by decide +kernel
theorem s148_17 {d : Nat} {st : List Value} {σ : am_I} {ρ : am_R} {g : am_J} {τ : am_T} {Q : am_Q} {x0 x2 x3 : Value} {v : Int32} {u : Int32} : AW d 148 17 [x0, .int u, x2, x3] (.int v :: st) σ ρ g τ Q = AW d 148 18 [x0, .int u, .int v, x3] (st) σ ρ g τ Q := aw_lc m148 d148_17 rfl rfl rfl
theorem d148_18 : decode cX11_tellRows 18 = .ok (.iload_n 2, 1) := by decide +kernel
theorem s148_18 {d : Nat} {st : List Value} {σ : am_I} {ρ : am_R} {g : am_J} {τ : am_T} {Q : am_Q} {x0 x1 x3 : Value} {v : Int32} : AW d 148 18 [x0, x1, .int v, x3] (st) σ ρ g τ Q = AW d 148 19 [x0, x1, .int v, x3] (.int v :: st) σ ρ g τ Q := aw_lc m148 d148_18 rfl rfl rfl
theorem d148_19 : decode cX11_tellRows 19 = .ok (.aload_n 0, 1) := by decide +kernel
theorem s148_19 {d : Nat} {st : List Value} {σ : am_I} {ρ : am_R} {g : am_J} {τ : am_T} {Q : am_Q} {x1 x2 x3 : Value} {v : Nat} : AW d 148 19 [.ref v, x1, x2, x3] (st) σ ρ g τ Q = AW d 148 20 [.ref v, x1, x2, x3] (.ref v :: st) σ ρ g τ Q := aw_lc m148 d148_19 rfl rfl rfl
theorem d148_20 : decode cX11_tellRows 20 = .ok (.getfield 10, 3) := by decide +kernel
theorem s148_20 {d : Nat} {st : List Value} {σ : am_I} {ρ : am_R} {g : am_J} {τ : am_T} {Q : am_Q} {x0 x1 x2 x3 : Value} {a : Nat} (ht : τ.1 a = 11) : AW d 148 20 [x0, x1, x2, x3] (.ref a :: st) σ ρ g τ Q = AW d 148 23 [x0, x1, x2, x3] (va_rf (ρ a 0) :: st) σ ρ g τ Q := aw_gr m148 d148_20 rfl rfl rfl ht
theorem d148_23 : decode cX11_tellRows 23 = .ok (.getfield 387, 3) := by decide +kernel
theorem s148_23 {d : Nat} {st : List Value} {σ : am_I} {ρ : am_R} {g : am_J} {τ : am_T} {Q : am_Q} {x0 x1 x2 x3 : Value} {a : Nat} (ht : τ.1 a = 3) : AW d 148 23 [x0, x1, x2, x3] (.ref a :: st) σ ρ g τ Q = AW d 148 26 [x0, x1, x2, x3] (va_rf (ρ a 15) :: st) σ ρ g τ Q := aw_gr m148 d148_23 rfl rfl rfl ht
theorem d148_26 : decode cX11_tellRows 26 = .ok (.getfield 359, 3) := by decide +kernel
theorem s148_26 {d : Nat} {st : List Value} {σ : am_I} {ρ : am_R} {g : am_J} {τ : am_T} {Q : am_Q} {x0 x1 x2 x3 : Value} {a : Nat} (ht : τ.1 a = 4) : AW d 148 26 [x0, x1, x2, x3] (.ref a :: st) σ ρ g τ Q = AW d 148 29 [x0, x1, x2, x3] (.int (σ a 3) :: st) σ ρ g τ Q := aw_gi m148 d148_26 rfl rfl rfl ht
theorem d148_29 : decode cX11_tellRows 29 = .ok (.if_icmp .ge 50, 3) := by decide +kernel
theorem s148_29 {d : Nat} {st : List Value} {σ : am_I} {ρ : am_R} {g : am_J} {τ : am_T} {Q : am_Q} {x0 x1 x2 x3 : Value} {v w : Int32} : AW d 148 29 [x0, x1, x2, x3] (.int w :: .int v :: st) σ ρ g τ Q = if w ≤ v then AW d 148 79 [x0, x1, x2, x3] (st) σ ρ g τ Q else AW d 148 32 [x0, x1, x2, x3] (st) σ ρ g τ Q := aw_br m148 d148_29 rfl rfl rfl
theorem d148_32 : decode cX11_tellRows 32 = .ok (.iload_n 1, 1) := by decide +kernel
theorem s148_32 {d : Nat} {st : List Value} {σ : am_I} {ρ : am_R} {g : am_J} {τ : am_T} {Q : am_Q} {x0 x2 x3 : Value} {v : Int32} : AW d 148 32 [x0, .int v, x2, x3] (st) σ ρ g τ Q = AW d 148 33 [x0, .int v, x2, x3] (.int v :: st) σ ρ g τ Q := aw_lc m148 d148_32 rfl rfl rfl
theorem d148_33 : decode cX11_tellRows 33 = .ok (.iload_n 2, 1) := by decide +kernel
theorem s148_33 {d : Nat} {st : List Value} {σ : am_I} {ρ : am_R} {g : am_J} {τ : am_T} {Q : am_Q} {x0 x1 x3 : Value} {v : Int32} : AW d 148 33 [x0, x1, .int v, x3] (st) σ ρ g τ Q = AW d 148 34 [x0, x1, .int v, x3] (.int v :: st) σ ρ g τ Q := aw_lc m148 d148_33 rfl rfl rfl
theorem d148_34 : decode cX11_tellRows 34 = .ok (.ishr, 1) := by decide +kernel
theorem s148_34 {d : Nat} {st : List Value} {σ : am_I} {ρ : am_R} {g : am_J} {τ : am_T} {Q : am_Q} {x0 x1 x2 x3 : Value} {v w : Int32} : AW d 148 34 [x0, x1, x2, x3] (.int w :: .int v :: st) σ ρ g τ Q = AW d 148 35 [x0, x1, x2, x3] (.int (v >>> (w &&& 31)) :: st) σ ρ g τ Q := aw_lc m148 d148_34 rfl rfl rfl
theorem d148_35 : decode cX11_tellRows 35 = .ok (.iconst 1, 1) := by decide +kernel
theorem s148_35 {d : Nat} {st : List Value} {σ : am_I} {ρ : am_R} {g : am_J} {τ : am_T} {Q : am_Q} {x0 x1 x2 x3 : Value} : AW d 148 35 [x0, x1, x2, x3] (st) σ ρ g τ Q = AW d 148 36 [x0, x1, x2, x3] (.int 1 :: st) σ ρ g τ Q := aw_lc m148 d148_35 rfl rfl rfl
theorem d148_36 : decode cX11_tellRows 36 = .ok (.iand, 1) := by decide +kernel
theorem s148_36 {d : Nat} {st : List Value} {σ : am_I} {ρ : am_R} {g : am_J} {τ : am_T} {Q : am_Q} {x0 x1 x2 x3 : Value} {v w : Int32} : AW d 148 36 [x0, x1, x2, x3] (.int w :: .int v :: st) σ ρ g τ Q = AW d 148 37 [x0, x1, x2, x3] (.int (v &&& w) :: st) σ ρ g τ Q := aw_lc m148 d148_36 rfl rfl rfl
theorem d148_37 : decode cX11_tellRows 37 = .ok (.iconst 1, 1) := by decide +kernel
theorem s148_37 {d : Nat} {st : List Value} {σ : am_I} {ρ : am_R} {g : am_J} {τ : am_T} {Q : am_Q} {x0 x1 x2 x3 : Value} : AW d 148 37 [x0, x1, x2, x3] (st) σ ρ g τ Q = AW d 148 38 [x0, x1, x2, x3] (.int 1 :: st) σ ρ g τ Q := aw_lc m148 d148_37 rfl rfl rfl
theorem d148_38 : decode cX11_tellRows 38 = .ok (.if_icmp .ne 35, 3) := by decide +kernel
theorem s148_38 {d : Nat} {st : List Value} {σ : am_I} {ρ : am_R} {g : am_J} {τ : am_T} {Q : am_Q} {x0 x1 x2 x3 : Value} {v w : Int32} : AW d 148 38 [x0, x1, x2, x3] (.int w :: .int v :: st) σ ρ g τ Q = if ¬ v = w then AW d 148 73 [x0, x1, x2, x3] (st) σ ρ g τ Q else AW d 148 41 [x0, x1, x2, x3] (st) σ ρ g τ Q := aw_br m148 d148_38 rfl rfl rfl
theorem d148_41 : decode cX11_tellRows 41 = .ok (.aload_n 0, 1) := by decide +kernel
theorem s148_41 {d : Nat} {st : List Value} {σ : am_I} {ρ : am_R} {g : am_J} {τ : am_T} {Q : am_Q} {x1 x2 x3 : Value} {v : Nat} : AW d 148 41 [.ref v, x1, x2, x3] (st) σ ρ g τ Q = AW d 148 42 [.ref v, x1, x2, x3] (.ref v :: st) σ ρ g τ Q := aw_lc m148 d148_41 rfl rfl rfl
theorem d148_42 : decode cX11_tellRows 42 = .ok (.getfield 49, 3) := by decide +kernel
theorem s148_42 {d : Nat} {st : List Value} {σ : am_I} {ρ : am_R} {g : am_J} {τ : am_T} {Q : am_Q} {x0 x1 x2 x3 : Value} {a : Nat} (ht : τ.1 a = 11) : AW d 148 42 [x0, x1, x2, x3] (.ref a :: st) σ ρ g τ Q = AW d 148 45 [x0, x1, x2, x3] (va_rf (ρ a 6) :: st) σ ρ g τ Q := aw_gr m148 d148_42 rfl rfl rfl ht
theorem d148_45 : decode cX11_tellRows 45 = .ok (.invokevirtual 329, 3) := by decide +kernel
theorem s148_45 {d : Nat} {st : List Value} {σ : am_I} {ρ : am_R} {g : am_J} {τ : am_T} {Q : am_Q} {x0 x1 x2 x3 : Value} {p0 : Nat} (ht : τ.1 p0 = 4) (hs : st.length ≤ 4) : AW (d + 1) 148 45 [x0, x1, x2, x3] (.ref p0 :: st) σ ρ g τ Q = AW d 45 0 [.ref p0] [] σ ρ g τ (fun r9 σ ρ g τ => AW (d + 1) 148 48 [x0, x1, x2, x3] (r9.toList ++ st) σ ρ g τ Q) := aw_cv m148 d148_45 rfl m45 rfl rfl (by decide) en45 ok45 rfl ht hs
theorem d148_48 : decode cX11_tellRows 48 = .ok (.istore_n 3, 1) := by decide +kernel
theorem s148_48 {d : Nat} {st : List Value} {σ : am_I} {ρ : am_R} {g : am_J} {τ : am_T} {Q : am_Q} {x0 x1 x3 : Value} {v : Int32} {u : Int32} : AW d 148 48 [x0, x1, .int u, x3] (.int v :: st) σ ρ g τ Q = AW d 148 49 [x0, x1, .int u, .int v] (st) σ ρ g τ Q := aw_lc m148 d148_48 rfl rfl rfl
theorem d148_49 : decode cX11_tellRows 49 = .ok (.aload_n 0, 1) := by decide +kernel
theorem s148_49 {d : Nat} {st : List Value} {σ : am_I} {ρ : am_R} {g : am_J} {τ : am_T} {Q : am_Q} {x1 x2 x3 : Value} {v : Nat} : AW d 148 49 [.ref v, x1, x2, x3] (st) σ ρ g τ Q = AW d 148 50 [.ref v, x1, x2, x3] (.ref v :: st) σ ρ g τ Q := aw_lc m148 d148_49 rfl rfl rfl
theorem d148_50 : decode cX11_tellRows 50 = .ok (.getfield 49, 3) := by decide +kernel
theorem s148_50 {d : Nat} {st : List Value} {σ : am_I} {ρ : am_R} {g : am_J} {τ : am_T} {Q : am_Q} {x0 x1 x2 x3 : Value} {a : Nat} (ht : τ.1 a = 11) : AW d 148 50 [x0, x1, x2, x3] (.ref a :: st) σ ρ g τ Q = AW d 148 53 [x0, x1, x2, x3] (va_rf (ρ a 6) :: st) σ ρ g τ Q := aw_gr m148 d148_50 rfl rfl rfl ht
theorem d148_53 : decode cX11_tellRows 53 = .ok (.iload_n 3, 1) := by decide +kernel
theorem s148_53 {d : Nat} {st : List Value} {σ : am_I} {ρ : am_R} {g : am_J} {τ : am_T} {Q : am_Q} {x0 x1 x2 : Value} {v : Int32} : AW d 148 53 [x0, x1, x2, .int v] (st) σ ρ g τ Q = AW d 148 54 [x0, x1, x2, .int v] (.int v :: st) σ ρ g τ Q := aw_lc m148 d148_53 rfl rfl rfl
theorem d148_54 : decode cX11_tellRows 54 = .ok (.iconst 0, 1) := by decide +kernel
theorem s148_54 {d : Nat} {st : List Value} {σ : am_I} {ρ : am_R} {g : am_J} {τ : am_T} {Q : am_Q} {x0 x1 x2 x3 : Value} : AW d 148 54 [x0, x1, x2, x3] (st) σ ρ g τ Q = AW d 148 55 [x0, x1, x2, x3] (.int 0 :: st) σ ρ g τ Q := aw_lc m148 d148_54 rfl rfl rfl
theorem d148_55 : decode cX11_tellRows 55 = .ok (.iload_n 2, 1) := by decide +kernel
theorem s148_55 {d : Nat} {st : List Value} {σ : am_I} {ρ : am_R} {g : am_J} {τ : am_T} {Q : am_Q} {x0 x1 x3 : Value} {v : Int32} : AW d 148 55 [x0, x1, .int v, x3] (st) σ ρ g τ Q = AW d 148 56 [x0, x1, .int v, x3] (.int v :: st) σ ρ g τ Q := aw_lc m148 d148_55 rfl rfl rfl
theorem d148_56 : decode cX11_tellRows 56 = .ok (.invokevirtual 332, 3) := by decide +kernel
theorem s148_56 {d : Nat} {st : List Value} {σ : am_I} {ρ : am_R} {g : am_J} {τ : am_T} {Q : am_Q} {x0 x1 x2 x3 : Value} {p0 : Nat} {p1 : Int32} {p2 : Int32} {p3 : Int32} (ht : τ.1 p0 = 4) (hs : st.length ≤ 4) : AW (d + 1) 148 56 [x0, x1, x2, x3] (.int p3 :: .int p2 :: .int p1 :: .ref p0 :: st) σ ρ g τ Q = AW d 47 0 [.ref p0, .int p1, .int p2, .int p3] [] σ ρ g τ (fun r9 σ ρ g τ => AW (d + 1) 148 59 [x0, x1, x2, x3] (r9.toList ++ st) σ ρ g τ Q) := aw_cv m148 d148_56 rfl m47 rfl rfl (by decide) en47 ok47 rfl ht hs
theorem d148_59 : decode cX11_tellRows 59 = .ok (.aload_n 0, 1) := by decide +kernel
theorem s148_59 {d : Nat} {st : List Value} {σ : am_I} {ρ : am_R} {g : am_J} {τ : am_T} {Q : am_Q} {x1 x2 x3 : Value} {v : Nat} : AW d 148 59 [.ref v, x1, x2, x3] (st) σ ρ g τ Q = AW d 148 60 [.ref v, x1, x2, x3] (.ref v :: st) σ ρ g τ Q := aw_lc m148 d148_59 rfl rfl rfl
theorem d148_60 : decode cX11_tellRows 60 = .ok (.getfield 49, 3) := by decide +kernel
theorem s148_60 {d : Nat} {st : List Value} {σ : am_I} {ρ : am_R} {g : am_J} {τ : am_T} {Q : am_Q} {x0 x1 x2 x3 : Value} {a : Nat} (ht : τ.1 a = 11) : AW d 148 60 [x0, x1, x2, x3] (.ref a :: st) σ ρ g τ Q = AW d 148 63 [x0, x1, x2, x3] (va_rf (ρ a 6) :: st) σ ρ g τ Q := aw_gr m148 d148_60 rfl rfl rfl ht
theorem d148_63 : decode cX11_tellRows 63 = .ok (.iload_n 3, 1) := by decide +kernel
theorem s148_63 {d : Nat} {st : List Value} {σ : am_I} {ρ : am_R} {g : am_J} {τ : am_T} {Q : am_Q} {x0 x1 x2 : Value} {v : Int32} : AW d 148 63 [x0, x1, x2, .int v] (st) σ ρ g τ Q = AW d 148 64 [x0, x1, x2, .int v] (.int v :: st) σ ρ g τ Q := aw_lc m148 d148_63 rfl rfl rfl
theorem d148_64 : decode cX11_tellRows 64 = .ok (.iconst 1, 1) := by decide +kernel
theorem s148_64 {d : Nat} {st : List Value} {σ : am_I} {ρ : am_R} {g : am_J} {τ : am_T} {Q : am_Q} {x0 x1 x2 x3 : Value} : AW d 148 64 [x0, x1, x2, x3] (st) σ ρ g τ Q = AW d 148 65 [x0, x1, x2, x3] (.int 1 :: st) σ ρ g τ Q := aw_lc m148 d148_64 rfl rfl rfl
theorem d148_65 : decode cX11_tellRows 65 = .ok (.aload_n 0, 1) := by decide +kernel
theorem s148_65 {d : Nat} {st : List Value} {σ : am_I} {ρ : am_R} {g : am_J} {τ : am_T} {Q : am_Q} {x1 x2 x3 : Value} {v : Nat} : AW d 148 65 [.ref v, x1, x2, x3] (st) σ ρ g τ Q = AW d 148 66 [.ref v, x1, x2, x3] (.ref v :: st) σ ρ g τ Q := aw_lc m148 d148_65 rfl rfl rfl
theorem d148_66 : decode cX11_tellRows 66 = .ok (.iload_n 2, 1) := by decide +kernel
theorem s148_66 {d : Nat} {st : List Value} {σ : am_I} {ρ : am_R} {g : am_J} {τ : am_T} {Q : am_Q} {x0 x1 x3 : Value} {v : Int32} : AW d 148 66 [x0, x1, .int v, x3] (st) σ ρ g τ Q = AW d 148 67 [x0, x1, .int v, x3] (.int v :: st) σ ρ g τ Q := aw_lc m148 d148_66 rfl rfl rfl
theorem d148_67 : decode cX11_tellRows 67 = .ok (.invokevirtual 405, 3) := by decide +kernel
theorem s148_67 {d : Nat} {st : List Value} {σ : am_I} {ρ : am_R} {g : am_J} {τ : am_T} {Q : am_Q} {x0 x1 x2 x3 : Value} {p0 : Nat} {p1 : Int32} (ht : τ.1 p0 = 11) (hs : st.length ≤ 4) : AW (d + 1) 148 67 [x0, x1, x2, x3] (.int p1 :: .ref p0 :: st) σ ρ g τ Q = AW d 146 0 [.ref p0, .int p1, am_jk] [] σ ρ g τ (fun r9 σ ρ g τ => AW (d + 1) 148 70 [x0, x1, x2, x3] (r9.toList ++ st) σ ρ g τ Q) := aw_cv m148 d148_67 rfl m146 rfl rfl (by decide) en146 ok146 rfl ht hs
theorem d148_70 : decode cX11_tellRows 70 = .ok (.invokevirtual 332, 3) := by decide +kernel
theorem s148_70 {d : Nat} {st : List Value} {σ : am_I} {ρ : am_R} {g : am_J} {τ : am_T} {Q : am_Q} {x0 x1 x2 x3 : Value} {p0 : Nat} {p1 : Int32} {p2 : Int32} {p3 : Int32} (ht : τ.1 p0 = 4) (hs : st.length ≤ 4) : AW (d + 1) 148 70 [x0, x1, x2, x3] (.int p3 :: .int p2 :: .int p1 :: .ref p0 :: st) σ ρ g τ Q = AW d 47 0 [.ref p0, .int p1, .int p2, .int p3] [] σ ρ g τ (fun r9 σ ρ g τ => AW (d + 1) 148 73 [x0, x1, x2, x3] (r9.toList ++ st) σ ρ g τ Q) := aw_cv m148 d148_70 rfl m47 rfl rfl (by decide) en47 ok47 rfl ht hs
theorem d148_73 : decode cX11_tellRows 73 = .ok (.iinc 2 1, 3) := by decide +kernel
theorem s148_73 {d : Nat} {st : List Value} {σ : am_I} {ρ : am_R} {g : am_J} {τ : am_T} {Q : am_Q} {x0 x3 : Value} {v : Int32} {u : Int32} : AW d 148 73 [x0, .int u, .int v, x3] (st) σ ρ g τ Q = AW d 148 76 [x0, .int u, .int (v + 1), x3] (st) σ ρ g τ Q := aw_lc m148 d148_73 rfl rfl rfl
theorem d148_76 : decode cX11_tellRows 76 = .ok (.goto (-58), 3) := by decide +kernel
theorem s148_76 {d : Nat} {st : List Value} {σ : am_I} {ρ : am_R} {g : am_J} {τ : am_T} {Q : am_Q} {x0 x1 x2 x3 : Value} : AW d 148 76 [x0, x1, x2, x3] (st) σ ρ g τ Q = AW d 148 18 [x0, x1, x2, x3] (st) σ ρ g τ Q := aw_lc m148 d148_76 rfl rfl rfl
theorem d148_79 : decode cX11_tellRows 79 = .ok (.return_, 1) := by decide +kernel
theorem s148_79 {d : Nat} {σ : am_I} {ρ : am_R} {g : am_J} {τ : am_T} {Q : am_Q} {x0 x1 x2 x3 : Value} : AW d 148 79 [x0, x1, x2, x3] ([]) σ ρ g τ Q = Q none σ ρ g τ := aw_rv m148 d148_79 rfl
theorem d149_0 : decode cX11_row 0 = .ok (.aload_n 0, 1) := by decide +kernel
theorem s149_0 {d : Nat} {st : List Value} {σ : am_I} {ρ : am_R} {g : am_J} {τ : am_T} {Q : am_Q} {x1 x2 : Value} {v : Nat} : AW d 149 0 [.ref v, x1, x2] (st) σ ρ g τ Q = AW d 149 1 [.ref v, x1, x2] (.ref v :: st) σ ρ g τ Q := aw_lc m149 d149_0 rfl rfl rfl
theorem d149_1 : decode cX11_row 1 = .ok (.getfield 49, 3) := by decide +kernel
theorem s149_1 {d : Nat} {st : List Value} {σ : am_I} {ρ : am_R} {g : am_J} {τ : am_T} {Q : am_Q} {x0 x1 x2 : Value} {a : Nat} (ht : τ.1 a = 11) : AW d 149 1 [x0, x1, x2] (.ref a :: st) σ ρ g τ Q = AW d 149 4 [x0, x1, x2] (va_rf (ρ a 6) :: st) σ ρ g τ Q := aw_gr m149 d149_1 rfl rfl rfl ht
theorem d149_4 : decode cX11_row 4 = .ok (.iload_n 1, 1) := by decide +kernel
theorem s149_4 {d : Nat} {st : List Value} {σ : am_I} {ρ : am_R} {g : am_J} {τ : am_T} {Q : am_Q} {x0 x2 : Value} {v : Int32} : AW d 149 4 [x0, .int v, x2] (st) σ ρ g τ Q = AW d 149 5 [x0, .int v, x2] (.int v :: st) σ ρ g τ Q := aw_lc m149 d149_4 rfl rfl rfl
theorem d149_5 : decode cX11_row 5 = .ok (.invokevirtual 336, 3) := by decide +kernel
theorem s149_5 {d : Nat} {st : List Value} {σ : am_I} {ρ : am_R} {g : am_J} {τ : am_T} {Q : am_Q} {x0 x1 x2 : Value} {p0 : Nat} {p1 : Int32} (ht : τ.1 p0 = 4) (hs : st.length ≤ 4) : AW (d + 1) 149 5 [x0, x1, x2] (.int p1 :: .ref p0 :: st) σ ρ g τ Q = AW d 44 0 [.ref p0, .int p1] [] σ ρ g τ (fun r9 σ ρ g τ => AW (d + 1) 149 8 [x0, x1, x2] (r9.toList ++ st) σ ρ g τ Q) := aw_cv m149 d149_5 rfl m44 rfl rfl (by decide) en44 ok44 rfl ht hs
theorem d149_8 : decode cX11_row 8 = .ok (.ifCond .eq 12, 3) := by decide +kernel
theorem s149_8 {d : Nat} {st : List Value} {σ : am_I} {ρ : am_R} {g : am_J} {τ : am_T} {Q : am_Q} {x0 x1 x2 : Value} {v : Int32} : AW d 149 8 [x0, x1, x2] (.int v :: st) σ ρ g τ Q = if v = 0 then AW d 149 20 [x0, x1, x2] (st) σ ρ g τ Q else AW d 149 11 [x0, x1, x2] (st) σ ρ g τ Q := aw_br m149 d149_8 rfl rfl rfl
theorem d149_11 : decode cX11_row 11 = .ok (.iload_n 2, 1) := by decide +kernel
theorem s149_11 {d : Nat} {st : List Value} {σ : am_I} {ρ : am_R} {g : am_J} {τ : am_T} {Q : am_Q} {x0 x1 : Value} {v : Int32} : AW d 149 11 [x0, x1, .int v] (st) σ ρ g τ Q = AW d 149 12 [x0, x1, .int v] (.int v :: st) σ ρ g τ Q := aw_lc m149 d149_11 rfl rfl rfl
theorem d149_12 : decode cX11_row 12 = .ok (.iconst 0, 1) := by decide +kernel
theorem s149_12 {d : Nat} {st : List Value} {σ : am_I} {ρ : am_R} {g : am_J} {τ : am_T} {Q : am_Q} {x0 x1 x2 : Value} : AW d 149 12 [x0, x1, x2] (st) σ ρ g τ Q = AW d 149 13 [x0, x1, x2] (.int 0 :: st) σ ρ g τ Q := aw_lc m149 d149_12 rfl rfl rfl
theorem d149_13 : decode cX11_row 13 = .ok (.iconst 1, 1) := by decide +kernel
theorem s149_13 {d : Nat} {st : List Value} {σ : am_I} {ρ : am_R} {g : am_J} {τ : am_T} {Q : am_Q} {x0 x1 x2 : Value} : AW d 149 13 [x0, x1, x2] (st) σ ρ g τ Q = AW d 149 14 [x0, x1, x2] (.int 1 :: st) σ ρ g τ Q := aw_lc m149 d149_13 rfl rfl rfl
theorem d149_14 : decode cX11_row 14 = .ok (.invokestatic 74, 3) := by decide +kernel
theorem s149_14 {d : Nat} {st : List Value} {σ : am_I} {ρ : am_R} {g : am_J} {τ : am_T} {Q : am_Q} {x0 x1 x2 : Value} {p0 : Int32} {p1 : Int32} {p2 : Int32} (hs : st.length ≤ 4) : AW (d + 1) 149 14 [x0, x1, x2] (.int p2 :: .int p1 :: .int p0 :: st) σ ρ g τ Q = AW d 100 0 [.int p0, .int p1, .int p2] [] σ ρ g τ (fun r9 σ ρ g τ => AW (d + 1) 149 17 [x0, x1, x2] (r9.toList ++ st) σ ρ g τ Q) := aw_cs m149 d149_14 rfl (by simp only [List.length_cons]; omega) rfl rfl en100 ok100 rfl hs
theorem d149_17 : decode cX11_row 17 = .ok (.ifCond .ne 6, 3) := by decide +kernel
theorem s149_17 {d : Nat} {st : List Value} {σ : am_I} {ρ : am_R} {g : am_J} {τ : am_T} {Q : am_Q} {x0 x1 x2 : Value} {v : Int32} : AW d 149 17 [x0, x1, x2] (.int v :: st) σ ρ g τ Q = if ¬ v = 0 then AW d 149 23 [x0, x1, x2] (st) σ ρ g τ Q else AW d 149 20 [x0, x1, x2] (st) σ ρ g τ Q := aw_br m149 d149_17 rfl rfl rfl
theorem d149_20 : decode cX11_row 20 = .ok (.bipush (-9), 2) := by decide +kernel
theorem s149_20 {d : Nat} {st : List Value} {σ : am_I} {ρ : am_R} {g : am_J} {τ : am_T} {Q : am_Q} {x0 x1 x2 : Value} : AW d 149 20 [x0, x1, x2] (st) σ ρ g τ Q = AW d 149 22 [x0, x1, x2] (.int (-9) :: st) σ ρ g τ Q := aw_lc m149 d149_20 rfl rfl rfl
theorem d149_22 : decode cX11_row 22 = .ok (.ireturn, 1) := by decide +kernel
theorem s149_22 {d : Nat} {σ : am_I} {ρ : am_R} {g : am_J} {τ : am_T} {Q : am_Q} {x0 x1 x2 : Value} {v : Int32} : AW d 149 22 [x0, x1, x2] ([.int v]) σ ρ g τ Q = Q (some (.int v)) σ ρ g τ := aw_ri m149 d149_22 rfl
theorem d149_23 : decode cX11_row 23 = .ok (.aload_n 0, 1) := by decide +kernel
theorem s149_23 {d : Nat} {st : List Value} {σ : am_I} {ρ : am_R} {g : am_J} {τ : am_T} {Q : am_Q} {x1 x2 : Value} {v : Nat} : AW d 149 23 [.ref v, x1, x2] (st) σ ρ g τ Q = AW d 149 24 [.ref v, x1, x2] (.ref v :: st) σ ρ g τ Q := aw_lc m149 d149_23 rfl rfl rfl
theorem d149_24 : decode cX11_row 24 = .ok (.getfield 49, 3) := by decide +kernel
theorem s149_24 {d : Nat} {st : List Value} {σ : am_I} {ρ : am_R} {g : am_J} {τ : am_T} {Q : am_Q} {x0 x1 x2 : Value} {a : Nat} (ht : τ.1 a = 11) : AW d 149 24 [x0, x1, x2] (.ref a :: st) σ ρ g τ Q = AW d 149 27 [x0, x1, x2] (va_rf (ρ a 6) :: st) σ ρ g τ Q := aw_gr m149 d149_24 rfl rfl rfl ht
theorem d149_27 : decode cX11_row 27 = .ok (.iload_n 1, 1) := by decide +kernel
theorem s149_27 {d : Nat} {st : List Value} {σ : am_I} {ρ : am_R} {g : am_J} {τ : am_T} {Q : am_Q} {x0 x2 : Value} {v : Int32} : AW d 149 27 [x0, .int v, x2] (st) σ ρ g τ Q = AW d 149 28 [x0, .int v, x2] (.int v :: st) σ ρ g τ Q := aw_lc m149 d149_27 rfl rfl rfl
theorem d149_28 : decode cX11_row 28 = .ok (.iload_n 2, 1) := by decide +kernel
theorem s149_28 {d : Nat} {st : List Value} {σ : am_I} {ρ : am_R} {g : am_J} {τ : am_T} {Q : am_Q} {x0 x1 : Value} {v : Int32} : AW d 149 28 [x0, x1, .int v] (st) σ ρ g τ Q = AW d 149 29 [x0, x1, .int v] (.int v :: st) σ ρ g τ Q := aw_lc m149 d149_28 rfl rfl rfl
theorem d149_29 : decode cX11_row 29 = .ok (.invokevirtual 339, 3) := by decide +kernel
theorem s149_29 {d : Nat} {st : List Value} {σ : am_I} {ρ : am_R} {g : am_J} {τ : am_T} {Q : am_Q} {x0 x1 x2 : Value} {p0 : Nat} {p1 : Int32} {p2 : Int32} (ht : τ.1 p0 = 4) (hs : st.length ≤ 4) : AW (d + 1) 149 29 [x0, x1, x2] (.int p2 :: .int p1 :: .ref p0 :: st) σ ρ g τ Q = AW d 46 0 [.ref p0, .int p1, .int p2] [] σ ρ g τ (fun r9 σ ρ g τ => AW (d + 1) 149 32 [x0, x1, x2] (r9.toList ++ st) σ ρ g τ Q) := aw_cv m149 d149_29 rfl m46 rfl rfl (by decide) en46 ok46 rfl ht hs
theorem d149_32 : decode cX11_row 32 = .ok (.ireturn, 1) := by decide +kernel
theorem s149_32 {d : Nat} {σ : am_I} {ρ : am_R} {g : am_J} {τ : am_T} {Q : am_Q} {x0 x1 x2 : Value} {v : Int32} : AW d 149 32 [x0, x1, x2] ([.int v]) σ ρ g τ Q = Q (some (.int v)) σ ρ g τ := aw_ri m149 d149_32 rfl
theorem d150_0 : decode cX11_alterRow 0 = .ok (.aload_n 0, 1) := by decide +kernel
theorem s150_0 {d : Nat} {st : List Value} {σ : am_I} {ρ : am_R} {g : am_J} {τ : am_T} {Q : am_Q} {x1 x2 x3 x4 : Value} {v : Nat} : AW d 150 0 [.ref v, x1, x2, x3, x4] (st) σ ρ g τ Q = AW d 150 1 [.ref v, x1, x2, x3, x4] (.ref v :: st) σ ρ g τ Q := aw_lc m150 d150_0 rfl rfl rfl
theorem d150_1 : decode cX11_alterRow 1 = .ok (.getfield 49, 3) := by decide +kernel
theorem s150_1 {d : Nat} {st : List Value} {σ : am_I} {ρ : am_R} {g : am_J} {τ : am_T} {Q : am_Q} {x0 x1 x2 x3 x4 : Value} {a : Nat} (ht : τ.1 a = 11) : AW d 150 1 [x0, x1, x2, x3, x4] (.ref a :: st) σ ρ g τ Q = AW d 150 4 [x0, x1, x2, x3, x4] (va_rf (ρ a 6) :: st) σ ρ g τ Q := aw_gr m150 d150_1 rfl rfl rfl ht
theorem d150_4 : decode cX11_alterRow 4 = .ok (.iload_n 1, 1) := by decide +kernel
theorem s150_4 {d : Nat} {st : List Value} {σ : am_I} {ρ : am_R} {g : am_J} {τ : am_T} {Q : am_Q} {x0 x2 x3 x4 : Value} {v : Int32} : AW d 150 4 [x0, .int v, x2, x3, x4] (st) σ ρ g τ Q = AW d 150 5 [x0, .int v, x2, x3, x4] (.int v :: st) σ ρ g τ Q := aw_lc m150 d150_4 rfl rfl rfl
theorem d150_5 : decode cX11_alterRow 5 = .ok (.invokevirtual 336, 3) := by decide +kernel
theorem s150_5 {d : Nat} {st : List Value} {σ : am_I} {ρ : am_R} {g : am_J} {τ : am_T} {Q : am_Q} {x0 x1 x2 x3 x4 : Value} {p0 : Nat} {p1 : Int32} (ht : τ.1 p0 = 4) (hs : st.length ≤ 4) : AW (d + 1) 150 5 [x0, x1, x2, x3, x4] (.int p1 :: .ref p0 :: st) σ ρ g τ Q = AW d 44 0 [.ref p0, .int p1] [] σ ρ g τ (fun r9 σ ρ g τ => AW (d + 1) 150 8 [x0, x1, x2, x3, x4] (r9.toList ++ st) σ ρ g τ Q) := aw_cv m150 d150_5 rfl m44 rfl rfl (by decide) en44 ok44 rfl ht hs
theorem d150_8 : decode cX11_alterRow 8 = .ok (.ifCond .eq 12, 3) := by decide +kernel
theorem s150_8 {d : Nat} {st : List Value} {σ : am_I} {ρ : am_R} {g : am_J} {τ : am_T} {Q : am_Q} {x0 x1 x2 x3 x4 : Value} {v : Int32} : AW d 150 8 [x0, x1, x2, x3, x4] (.int v :: st) σ ρ g τ Q = if v = 0 then AW d 150 20 [x0, x1, x2, x3, x4] (st) σ ρ g τ Q else AW d 150 11 [x0, x1, x2, x3, x4] (st) σ ρ g τ Q := aw_br m150 d150_8 rfl rfl rfl
theorem d150_11 : decode cX11_alterRow 11 = .ok (.iload_n 2, 1) := by decide +kernel
theorem s150_11 {d : Nat} {st : List Value} {σ : am_I} {ρ : am_R} {g : am_J} {τ : am_T} {Q : am_Q} {x0 x1 x3 x4 : Value} {v : Int32} : AW d 150 11 [x0, x1, .int v, x3, x4] (st) σ ρ g τ Q = AW d 150 12 [x0, x1, .int v, x3, x4] (.int v :: st) σ ρ g τ Q := aw_lc m150 d150_11 rfl rfl rfl
theorem d150_12 : decode cX11_alterRow 12 = .ok (.iconst 0, 1) := by decide +kernel
theorem s150_12 {d : Nat} {st : List Value} {σ : am_I} {ρ : am_R} {g : am_J} {τ : am_T} {Q : am_Q} {x0 x1 x2 x3 x4 : Value} : AW d 150 12 [x0, x1, x2, x3, x4] (st) σ ρ g τ Q = AW d 150 13 [x0, x1, x2, x3, x4] (.int 0 :: st) σ ρ g τ Q := aw_lc m150 d150_12 rfl rfl rfl
theorem d150_13 : decode cX11_alterRow 13 = .ok (.iconst 1, 1) := by decide +kernel
theorem s150_13 {d : Nat} {st : List Value} {σ : am_I} {ρ : am_R} {g : am_J} {τ : am_T} {Q : am_Q} {x0 x1 x2 x3 x4 : Value} : AW d 150 13 [x0, x1, x2, x3, x4] (st) σ ρ g τ Q = AW d 150 14 [x0, x1, x2, x3, x4] (.int 1 :: st) σ ρ g τ Q := aw_lc m150 d150_13 rfl rfl rfl
theorem d150_14 : decode cX11_alterRow 14 = .ok (.invokestatic 74, 3) := by decide +kernel
theorem s150_14 {d : Nat} {st : List Value} {σ : am_I} {ρ : am_R} {g : am_J} {τ : am_T} {Q : am_Q} {x0 x1 x2 x3 x4 : Value} {p0 : Int32} {p1 : Int32} {p2 : Int32} (hs : st.length ≤ 4) : AW (d + 1) 150 14 [x0, x1, x2, x3, x4] (.int p2 :: .int p1 :: .int p0 :: st) σ ρ g τ Q = AW d 100 0 [.int p0, .int p1, .int p2] [] σ ρ g τ (fun r9 σ ρ g τ => AW (d + 1) 150 17 [x0, x1, x2, x3, x4] (r9.toList ++ st) σ ρ g τ Q) := aw_cs m150 d150_14 rfl (by simp only [List.length_cons]; omega) rfl rfl en100 ok100 rfl hs
theorem d150_17 : decode cX11_alterRow 17 = .ok (.ifCond .ne 6, 3) := by decide +kernel
theorem s150_17 {d : Nat} {st : List Value} {σ : am_I} {ρ : am_R} {g : am_J} {τ : am_T} {Q : am_Q} {x0 x1 x2 x3 x4 : Value} {v : Int32} : AW d 150 17 [x0, x1, x2, x3, x4] (.int v :: st) σ ρ g τ Q = if ¬ v = 0 then AW d 150 23 [x0, x1, x2, x3, x4] (st) σ ρ g τ Q else AW d 150 20 [x0, x1, x2, x3, x4] (st) σ ρ g τ Q := aw_br m150 d150_17 rfl rfl rfl
theorem d150_20 : decode cX11_alterRow 20 = .ok (.bipush (-9), 2) := by decide +kernel
theorem s150_20 {d : Nat} {st : List Value} {σ : am_I} {ρ : am_R} {g : am_J} {τ : am_T} {Q : am_Q} {x0 x1 x2 x3 x4 : Value} : AW d 150 20 [x0, x1, x2, x3, x4] (st) σ ρ g τ Q = AW d 150 22 [x0, x1, x2, x3, x4] (.int (-9) :: st) σ ρ g τ Q := aw_lc m150 d150_20 rfl rfl rfl
theorem d150_22 : decode cX11_alterRow 22 = .ok (.ireturn, 1) := by decide +kernel
theorem s150_22 {d : Nat} {σ : am_I} {ρ : am_R} {g : am_J} {τ : am_T} {Q : am_Q} {x0 x1 x2 x3 x4 : Value} {v : Int32} : AW d 150 22 [x0, x1, x2, x3, x4] ([.int v]) σ ρ g τ Q = Q (some (.int v)) σ ρ g τ := aw_ri m150 d150_22 rfl
theorem d150_23 : decode cX11_alterRow 23 = .ok (.aload_n 0, 1) := by decide +kernel
theorem s150_23 {d : Nat} {st : List Value} {σ : am_I} {ρ : am_R} {g : am_J} {τ : am_T} {Q : am_Q} {x1 x2 x3 x4 : Value} {v : Nat} : AW d 150 23 [.ref v, x1, x2, x3, x4] (st) σ ρ g τ Q = AW d 150 24 [.ref v, x1, x2, x3, x4] (.ref v :: st) σ ρ g τ Q := aw_lc m150 d150_23 rfl rfl rfl
theorem d150_24 : decode cX11_alterRow 24 = .ok (.getfield 49, 3) := by decide +kernel
theorem s150_24 {d : Nat} {st : List Value} {σ : am_I} {ρ : am_R} {g : am_J} {τ : am_T} {Q : am_Q} {x0 x1 x2 x3 x4 : Value} {a : Nat} (ht : τ.1 a = 11) : AW d 150 24 [x0, x1, x2, x3, x4] (.ref a :: st) σ ρ g τ Q = AW d 150 27 [x0, x1, x2, x3, x4] (va_rf (ρ a 6) :: st) σ ρ g τ Q := aw_gr m150 d150_24 rfl rfl rfl ht
theorem d150_27 : decode cX11_alterRow 27 = .ok (.iload_n 1, 1) := by decide +kernel
theorem s150_27 {d : Nat} {st : List Value} {σ : am_I} {ρ : am_R} {g : am_J} {τ : am_T} {Q : am_Q} {x0 x2 x3 x4 : Value} {v : Int32} : AW d 150 27 [x0, .int v, x2, x3, x4] (st) σ ρ g τ Q = AW d 150 28 [x0, .int v, x2, x3, x4] (.int v :: st) σ ρ g τ Q := aw_lc m150 d150_27 rfl rfl rfl
theorem d150_28 : decode cX11_alterRow 28 = .ok (.iload_n 2, 1) := by decide +kernel
theorem s150_28 {d : Nat} {st : List Value} {σ : am_I} {ρ : am_R} {g : am_J} {τ : am_T} {Q : am_Q} {x0 x1 x3 x4 : Value} {v : Int32} : AW d 150 28 [x0, x1, .int v, x3, x4] (st) σ ρ g τ Q = AW d 150 29 [x0, x1, .int v, x3, x4] (.int v :: st) σ ρ g τ Q := aw_lc m150 d150_28 rfl rfl rfl
theorem d150_29 : decode cX11_alterRow 29 = .ok (.invokevirtual 339, 3) := by decide +kernel
theorem s150_29 {d : Nat} {st : List Value} {σ : am_I} {ρ : am_R} {g : am_J} {τ : am_T} {Q : am_Q} {x0 x1 x2 x3 x4 : Value} {p0 : Nat} {p1 : Int32} {p2 : Int32} (ht : τ.1 p0 = 4) (hs : st.length ≤ 4) : AW (d + 1) 150 29 [x0, x1, x2, x3, x4] (.int p2 :: .int p1 :: .ref p0 :: st) σ ρ g τ Q = AW d 46 0 [.ref p0, .int p1, .int p2] [] σ ρ g τ (fun r9 σ ρ g τ => AW (d + 1) 150 32 [x0, x1, x2, x3, x4] (r9.toList ++ st) σ ρ g τ Q) := aw_cv m150 d150_29 rfl m46 rfl rfl (by decide) en46 ok46 rfl ht hs
theorem d150_32 : decode cX11_alterRow 32 = .ok (.istore 4, 2) := by decide +kernel
theorem s150_32 {d : Nat} {st : List Value} {σ : am_I} {ρ : am_R} {g : am_J} {τ : am_T} {Q : am_Q} {x0 x1 x2 x4 : Value} {v : Int32} {u : Int32} : AW d 150 32 [x0, x1, x2, .int u, x4] (.int v :: st) σ ρ g τ Q = AW d 150 34 [x0, x1, x2, .int u, .int v] (st) σ ρ g τ Q := aw_lc m150 d150_32 rfl rfl rfl
theorem d150_34 : decode cX11_alterRow 34 = .ok (.aload_n 0, 1) := by decide +kernel
theorem s150_34 {d : Nat} {st : List Value} {σ : am_I} {ρ : am_R} {g : am_J} {τ : am_T} {Q : am_Q} {x1 x2 x3 x4 : Value} {v : Nat} : AW d 150 34 [.ref v, x1, x2, x3, x4] (st) σ ρ g τ Q = AW d 150 35 [.ref v, x1, x2, x3, x4] (.ref v :: st) σ ρ g τ Q := aw_lc m150 d150_34 rfl rfl rfl
theorem d150_35 : decode cX11_alterRow 35 = .ok (.getfield 49, 3) := by decide +kernel
theorem s150_35 {d : Nat} {st : List Value} {σ : am_I} {ρ : am_R} {g : am_J} {τ : am_T} {Q : am_Q} {x0 x1 x2 x3 x4 : Value} {a : Nat} (ht : τ.1 a = 11) : AW d 150 35 [x0, x1, x2, x3, x4] (.ref a :: st) σ ρ g τ Q = AW d 150 38 [x0, x1, x2, x3, x4] (va_rf (ρ a 6) :: st) σ ρ g τ Q := aw_gr m150 d150_35 rfl rfl rfl ht
theorem d150_38 : decode cX11_alterRow 38 = .ok (.iload_n 1, 1) := by decide +kernel
theorem s150_38 {d : Nat} {st : List Value} {σ : am_I} {ρ : am_R} {g : am_J} {τ : am_T} {Q : am_Q} {x0 x2 x3 x4 : Value} {v : Int32} : AW d 150 38 [x0, .int v, x2, x3, x4] (st) σ ρ g τ Q = AW d 150 39 [x0, .int v, x2, x3, x4] (.int v :: st) σ ρ g τ Q := aw_lc m150 d150_38 rfl rfl rfl
theorem d150_39 : decode cX11_alterRow 39 = .ok (.iload_n 2, 1) := by decide +kernel
theorem s150_39 {d : Nat} {st : List Value} {σ : am_I} {ρ : am_R} {g : am_J} {τ : am_T} {Q : am_Q} {x0 x1 x3 x4 : Value} {v : Int32} : AW d 150 39 [x0, x1, .int v, x3, x4] (st) σ ρ g τ Q = AW d 150 40 [x0, x1, .int v, x3, x4] (.int v :: st) σ ρ g τ Q := aw_lc m150 d150_39 rfl rfl rfl
theorem d150_40 : decode cX11_alterRow 40 = .ok (.iload_n 3, 1) := by decide +kernel
theorem s150_40 {d : Nat} {st : List Value} {σ : am_I} {ρ : am_R} {g : am_J} {τ : am_T} {Q : am_Q} {x0 x1 x2 x4 : Value} {v : Int32} : AW d 150 40 [x0, x1, x2, .int v, x4] (st) σ ρ g τ Q = AW d 150 41 [x0, x1, x2, .int v, x4] (.int v :: st) σ ρ g τ Q := aw_lc m150 d150_40 rfl rfl rfl
theorem d150_41 : decode cX11_alterRow 41 = .ok (.invokevirtual 332, 3) := by decide +kernel
theorem s150_41 {d : Nat} {st : List Value} {σ : am_I} {ρ : am_R} {g : am_J} {τ : am_T} {Q : am_Q} {x0 x1 x2 x3 x4 : Value} {p0 : Nat} {p1 : Int32} {p2 : Int32} {p3 : Int32} (ht : τ.1 p0 = 4) (hs : st.length ≤ 4) : AW (d + 1) 150 41 [x0, x1, x2, x3, x4] (.int p3 :: .int p2 :: .int p1 :: .ref p0 :: st) σ ρ g τ Q = AW d 47 0 [.ref p0, .int p1, .int p2, .int p3] [] σ ρ g τ (fun r9 σ ρ g τ => AW (d + 1) 150 44 [x0, x1, x2, x3, x4] (r9.toList ++ st) σ ρ g τ Q) := aw_cv m150 d150_41 rfl m47 rfl rfl (by decide) en47 ok47 rfl ht hs
theorem d150_44 : decode cX11_alterRow 44 = .ok (.iload 4, 2) := by decide +kernel
theorem s150_44 {d : Nat} {st : List Value} {σ : am_I} {ρ : am_R} {g : am_J} {τ : am_T} {Q : am_Q} {x0 x1 x2 x3 : Value} {v : Int32} : AW d 150 44 [x0, x1, x2, x3, .int v] (st) σ ρ g τ Q = AW d 150 46 [x0, x1, x2, x3, .int v] (.int v :: st) σ ρ g τ Q := aw_lc m150 d150_44 rfl rfl rfl
theorem d150_46 : decode cX11_alterRow 46 = .ok (.ireturn, 1) := by decide +kernel
theorem s150_46 {d : Nat} {σ : am_I} {ρ : am_R} {g : am_J} {τ : am_T} {Q : am_Q} {x0 x1 x2 x3 x4 : Value} {v : Int32} : AW d 150 46 [x0, x1, x2, x3, x4] ([.int v]) σ ρ g τ Q = Q (some (.int v)) σ ρ g τ := aw_ri m150 d150_46 rfl
theorem d151_0 : decode cX11_dropRow 0 = .ok (.aload_n 0, 1) := by decide +kernel
theorem s151_0 {d : Nat} {st : List Value} {σ : am_I} {ρ : am_R} {g : am_J} {τ : am_T} {Q : am_Q} {v : Nat} : AW d 151 0 [.ref v] (st) σ ρ g τ Q = AW d 151 1 [.ref v] (.ref v :: st) σ ρ g τ Q := aw_lc m151 d151_0 rfl rfl rfl
theorem d151_1 : decode cX11_dropRow 1 = .ok (.getfield 49, 3) := by decide +kernel
theorem s151_1 {d : Nat} {st : List Value} {σ : am_I} {ρ : am_R} {g : am_J} {τ : am_T} {Q : am_Q} {x0 : Value} {a : Nat} (ht : τ.1 a = 11) : AW d 151 1 [x0] (.ref a :: st) σ ρ g τ Q = AW d 151 4 [x0] (va_rf (ρ a 6) :: st) σ ρ g τ Q := aw_gr m151 d151_1 rfl rfl rfl ht
theorem d151_4 : decode cX11_dropRow 4 = .ok (.getfield 359, 3) := by decide +kernel
theorem s151_4 {d : Nat} {st : List Value} {σ : am_I} {ρ : am_R} {g : am_J} {τ : am_T} {Q : am_Q} {x0 : Value} {a : Nat} (ht : τ.1 a = 4) : AW d 151 4 [x0] (.ref a :: st) σ ρ g τ Q = AW d 151 7 [x0] (.int (σ a 3) :: st) σ ρ g τ Q := aw_gi m151 d151_4 rfl rfl rfl ht
theorem d151_7 : decode cX11_dropRow 7 = .ok (.ifCond .gt 6, 3) := by decide +kernel
theorem s151_7 {d : Nat} {st : List Value} {σ : am_I} {ρ : am_R} {g : am_J} {τ : am_T} {Q : am_Q} {x0 : Value} {v : Int32} : AW d 151 7 [x0] (.int v :: st) σ ρ g τ Q = if 0 < v then AW d 151 13 [x0] (st) σ ρ g τ Q else AW d 151 10 [x0] (st) σ ρ g τ Q := aw_br m151 d151_7 rfl rfl rfl
theorem d151_10 : decode cX11_dropRow 10 = .ok (.bipush (-3), 2) := by decide +kernel
theorem s151_10 {d : Nat} {st : List Value} {σ : am_I} {ρ : am_R} {g : am_J} {τ : am_T} {Q : am_Q} {x0 : Value} : AW d 151 10 [x0] (st) σ ρ g τ Q = AW d 151 12 [x0] (.int (-3) :: st) σ ρ g τ Q := aw_lc m151 d151_10 rfl rfl rfl
theorem d151_12 : decode cX11_dropRow 12 = .ok (.ireturn, 1) := by decide +kernel
theorem s151_12 {d : Nat} {σ : am_I} {ρ : am_R} {g : am_J} {τ : am_T} {Q : am_Q} {x0 : Value} {v : Int32} : AW d 151 12 [x0] ([.int v]) σ ρ g τ Q = Q (some (.int v)) σ ρ g τ := aw_ri m151 d151_12 rfl
theorem d151_13 : decode cX11_dropRow 13 = .ok (.aload_n 0, 1) := by decide +kernel
theorem s151_13 {d : Nat} {st : List Value} {σ : am_I} {ρ : am_R} {g : am_J} {τ : am_T} {Q : am_Q} {v : Nat} : AW d 151 13 [.ref v] (st) σ ρ g τ Q = AW d 151 14 [.ref v] (.ref v :: st) σ ρ g τ Q := aw_lc m151 d151_13 rfl rfl rfl
theorem d151_14 : decode cX11_dropRow 14 = .ok (.getfield 49, 3) := by decide +kernel
theorem s151_14 {d : Nat} {st : List Value} {σ : am_I} {ρ : am_R} {g : am_J} {τ : am_T} {Q : am_Q} {x0 : Value} {a : Nat} (ht : τ.1 a = 11) : AW d 151 14 [x0] (.ref a :: st) σ ρ g τ Q = AW d 151 17 [x0] (va_rf (ρ a 6) :: st) σ ρ g τ Q := aw_gr m151 d151_14 rfl rfl rfl ht
theorem d151_17 : decode cX11_dropRow 17 = .ok (.dup, 1) := by decide +kernel
theorem s151_17 {d : Nat} {st : List Value} {σ : am_I} {ρ : am_R} {g : am_J} {τ : am_T} {Q : am_Q} {x0 : Value} {v : Int32} : AW d 151 17 [x0] (.int v :: st) σ ρ g τ Q = AW d 151 18 [x0] (.int v :: .int v :: st) σ ρ g τ Q := aw_lc m151 d151_17 rfl rfl rfl
theorem s151_17r {d : Nat} {st : List Value} {σ : am_I} {ρ : am_R} {g : am_J} {τ : am_T} {Q : am_Q} {x0 : Value} {v : Nat} : AW d 151 17 [x0] (.ref v :: st) σ ρ g τ Q = AW d 151 18 [x0] (.ref v :: .ref v :: st) σ ρ g τ Q := aw_lc m151 d151_17 rfl rfl rfl
theorem d151_18 : decode cX11_dropRow 18 = .ok (.getfield 359, 3) := by decide +kernel
theorem s151_18 {d : Nat} {st : List Value} {σ : am_I} {ρ : am_R} {g : am_J} {τ : am_T} {Q : am_Q} {x0 : Value} {a : Nat} (ht : τ.1 a = 4) : AW d 151 18 [x0] (.ref a :: st) σ ρ g τ Q = AW d 151 21 [x0] (.int (σ a 3) :: st) σ ρ g τ Q := aw_gi m151 d151_18 rfl rfl rfl ht
theorem d151_21 : decode cX11_dropRow 21 = .ok (.iconst 1, 1) := by decide +kernel
theorem s151_21 {d : Nat} {st : List Value} {σ : am_I} {ρ : am_R} {g : am_J} {τ : am_T} {Q : am_Q} {x0 : Value} : AW d 151 21 [x0] (st) σ ρ g τ Q = AW d 151 22 [x0] (.int 1 :: st) σ ρ g τ Q := aw_lc m151 d151_21 rfl rfl rfl
theorem d151_22 : decode cX11_dropRow 22 = .ok (.isub, 1) := by decide +kernel
theorem s151_22 {d : Nat} {st : List Value} {σ : am_I} {ρ : am_R} {g : am_J} {τ : am_T} {Q : am_Q} {x0 : Value} {v w : Int32} : AW d 151 22 [x0] (.int w :: .int v :: st) σ ρ g τ Q = AW d 151 23 [x0] (.int (v - w) :: st) σ ρ g τ Q := aw_lc m151 d151_22 rfl rfl rfl
theorem d151_23 : decode cX11_dropRow 23 = .ok (.putfield 359, 3) := by decide +kernel
theorem s151_23 {d : Nat} {st : List Value} {σ : am_I} {ρ : am_R} {g : am_J} {τ : am_T} {Q : am_Q} {x0 : Value} {a : Nat} {v : Int32} (ht : τ.1 a = 4) : AW d 151 23 [x0] (.int v :: .ref a :: st) σ ρ g τ Q = AW d 151 26 [x0] (st) (am_u σ a 3 v) ρ g τ Q := aw_pi m151 d151_23 rfl rfl (Or.inl rfl) rfl ht
theorem d151_26 : decode cX11_dropRow 26 = .ok (.aload_n 0, 1) := by decide +kernel
theorem s151_26 {d : Nat} {st : List Value} {σ : am_I} {ρ : am_R} {g : am_J} {τ : am_T} {Q : am_Q} {v : Nat} : AW d 151 26 [.ref v] (st) σ ρ g τ Q = AW d 151 27 [.ref v] (.ref v :: st) σ ρ g τ Q := aw_lc m151 d151_26 rfl rfl rfl
theorem d151_27 : decode cX11_dropRow 27 = .ok (.getfield 49, 3) := by decide +kernel
theorem s151_27 {d : Nat} {st : List Value} {σ : am_I} {ρ : am_R} {g : am_J} {τ : am_T} {Q : am_Q} {x0 : Value} {a : Nat} (ht : τ.1 a = 11) : AW d 151 27 [x0] (.ref a :: st) σ ρ g τ Q = AW d 151 30 [x0] (va_rf (ρ a 6) :: st) σ ρ g τ Q := aw_gr m151 d151_27 rfl rfl rfl ht
theorem d151_30 : decode cX11_dropRow 30 = .ok (.getfield 359, 3) := by decide +kernel
theorem s151_30 {d : Nat} {st : List Value} {σ : am_I} {ρ : am_R} {g : am_J} {τ : am_T} {Q : am_Q} {x0 : Value} {a : Nat} (ht : τ.1 a = 4) : AW d 151 30 [x0] (.ref a :: st) σ ρ g τ Q = AW d 151 33 [x0] (.int (σ a 3) :: st) σ ρ g τ Q := aw_gi m151 d151_30 rfl rfl rfl ht
theorem d151_33 : decode cX11_dropRow 33 = .ok (.ireturn, 1) := by decide +kernel
theorem s151_33 {d : Nat} {σ : am_I} {ρ : am_R} {g : am_J} {τ : am_T} {Q : am_Q} {x0 : Value} {v : Int32} : AW d 151 33 [x0] ([.int v]) σ ρ g τ Q = Q (some (.int v)) σ ρ g τ := aw_ri m151 d151_33 rfl
theorem d152_0 : decode cX11_judge 0 = .ok (.iload_n 1, 1) := by decide +kernel
theorem s152_0 {d : Nat} {st : List Value} {σ : am_I} {ρ : am_R} {g : am_J} {τ : am_T} {Q : am_Q} {x0 x2 x3 x4 x5 : Value} {v : Int32} : AW d 152 0 [x0, .int v, x2, x3, x4, x5] (st) σ ρ g τ Q = AW d 152 1 [x0, .int v, x2, x3, x4, x5] (.int v :: st) σ ρ g τ Q := aw_lc m152 d152_0 rfl rfl rfl
theorem d152_1 : decode cX11_judge 1 = .ok (.iconst 0, 1) := by decide +kernel
theorem s152_1 {d : Nat} {st : List Value} {σ : am_I} {ρ : am_R} {g : am_J} {τ : am_T} {Q : am_Q} {x0 x1 x2 x3 x4 x5 : Value} : AW d 152 1 [x0, x1, x2, x3, x4, x5] (st) σ ρ g τ Q = AW d 152 2 [x0, x1, x2, x3, x4, x5] (.int 0 :: st) σ ρ g τ Q := aw_lc m152 d152_1 rfl rfl rfl
theorem d152_2 : decode cX11_judge 2 = .ok (.sipush 9999, 3) := by decide +kernel
theorem s152_2 {d : Nat} {st : List Value} {σ : am_I} {ρ : am_R} {g : am_J} {τ : am_T} {Q : am_Q} {x0 x1 x2 x3 x4 x5 : Value} : AW d 152 2 [x0, x1, x2, x3, x4, x5] (st) σ ρ g τ Q = AW d 152 5 [x0, x1, x2, x3, x4, x5] (.int 9999 :: st) σ ρ g τ Q := aw_lc m152 d152_2 rfl rfl rfl
theorem d152_5 : decode cX11_judge 5 = .ok (.invokestatic 74, 3) := by decide +kernel
theorem s152_5 {d : Nat} {st : List Value} {σ : am_I} {ρ : am_R} {g : am_J} {τ : am_T} {Q : am_Q} {x0 x1 x2 x3 x4 x5 : Value} {p0 : Int32} {p1 : Int32} {p2 : Int32} (hs : st.length ≤ 4) : AW (d + 1) 152 5 [x0, x1, x2, x3, x4, x5] (.int p2 :: .int p1 :: .int p0 :: st) σ ρ g τ Q = AW d 100 0 [.int p0, .int p1, .int p2] [] σ ρ g τ (fun r9 σ ρ g τ => AW (d + 1) 152 8 [x0, x1, x2, x3, x4, x5] (r9.toList ++ st) σ ρ g τ Q) := aw_cs m152 d152_5 rfl (by simp only [List.length_cons]; omega) rfl rfl en100 ok100 rfl hs
theorem d152_8 : decode cX11_judge 8 = .ok (.ifCond .ne 5, 3) := by decide +kernel
theorem s152_8 {d : Nat} {st : List Value} {σ : am_I} {ρ : am_R} {g : am_J} {τ : am_T} {Q : am_Q} {x0 x1 x2 x3 x4 x5 : Value} {v : Int32} : AW d 152 8 [x0, x1, x2, x3, x4, x5] (.int v :: st) σ ρ g τ Q = if ¬ v = 0 then AW d 152 13 [x0, x1, x2, x3, x4, x5] (st) σ ρ g τ Q else AW d 152 11 [x0, x1, x2, x3, x4, x5] (st) σ ρ g τ Q := aw_br m152 d152_8 rfl rfl rfl
theorem d152_11 : decode cX11_judge 11 = .ok (.iconst (-1), 1) := by decide +kernel
theorem s152_11 {d : Nat} {st : List Value} {σ : am_I} {ρ : am_R} {g : am_J} {τ : am_T} {Q : am_Q} {x0 x1 x2 x3 x4 x5 : Value} : AW d 152 11 [x0, x1, x2, x3, x4, x5] (st) σ ρ g τ Q = AW d 152 12 [x0, x1, x2, x3, x4, x5] (.int (-1) :: st) σ ρ g τ Q := aw_lc m152 d152_11 rfl rfl rfl
theorem d152_12 : decode cX11_judge 12 = .ok (.ireturn, 1) := by decide +kernel
theorem s152_12 {d : Nat} {σ : am_I} {ρ : am_R} {g : am_J} {τ : am_T} {Q : am_Q} {x0 x1 x2 x3 x4 x5 : Value} {v : Int32} : AW d 152 12 [x0, x1, x2, x3, x4, x5] ([.int v]) σ ρ g τ Q = Q (some (.int v)) σ ρ g τ := aw_ri m152 d152_12 rfl
theorem d152_13 : decode cX11_judge 13 = .ok (.aload_n 0, 1) := by decide +kernel
theorem s152_13 {d : Nat} {st : List Value} {σ : am_I} {ρ : am_R} {g : am_J} {τ : am_T} {Q : am_Q} {x1 x2 x3 x4 x5 : Value} {v : Nat} : AW d 152 13 [.ref v, x1, x2, x3, x4, x5] (st) σ ρ g τ Q = AW d 152 14 [.ref v, x1, x2, x3, x4, x5] (.ref v :: st) σ ρ g τ Q := aw_lc m152 d152_13 rfl rfl rfl
theorem d152_14 : decode cX11_judge 14 = .ok (.getfield 71, 3) := by decide +kernel
theorem s152_14 {d : Nat} {st : List Value} {σ : am_I} {ρ : am_R} {g : am_J} {τ : am_T} {Q : am_Q} {x0 x1 x2 x3 x4 x5 : Value} {a : Nat} (ht : τ.1 a = 11) : AW d 152 14 [x0, x1, x2, x3, x4, x5] (.ref a :: st) σ ρ g τ Q = AW d 152 17 [x0, x1, x2, x3, x4, x5] (va_rf (ρ a 10) :: st) σ ρ g τ Q := aw_gr m152 d152_14 rfl rfl rfl ht
theorem d152_17 : decode cX11_judge 17 = .ok (.iconst 0, 1) := by decide +kernel
theorem s152_17 {d : Nat} {st : List Value} {σ : am_I} {ρ : am_R} {g : am_J} {τ : am_T} {Q : am_Q} {x0 x1 x2 x3 x4 x5 : Value} : AW d 152 17 [x0, x1, x2, x3, x4, x5] (st) σ ρ g τ Q = AW d 152 18 [x0, x1, x2, x3, x4, x5] (.int 0 :: st) σ ρ g τ Q := aw_lc m152 d152_17 rfl rfl rfl
theorem d152_18 : decode cX11_judge 18 = .ok (.invokestatic 399, 3) := by decide +kernel
theorem s152_18 {d : Nat} {st : List Value} {σ : am_I} {ρ : am_R} {g : am_J} {τ : am_T} {Q : am_Q} {x0 x1 x2 x3 x4 x5 : Value} {p0 : Nat} {p1 : Int32} (hs : st.length ≤ 4) : AW (d + 1) 152 18 [x0, x1, x2, x3, x4, x5] (.int p1 :: .ref p0 :: st) σ ρ g τ Q = AW d 275 0 [.ref p0, .int p1, am_jk, am_jk] [] σ ρ g τ (fun r9 σ ρ g τ => AW (d + 1) 152 21 [x0, x1, x2, x3, x4, x5] (r9.toList ++ st) σ ρ g τ Q) := aw_cs m152 d152_18 rfl (by simp only [List.length_cons]; omega) rfl rfl en275 ok275 rfl hs
theorem d152_21 : decode cX11_judge 21 = .ok (.iconst 0, 1) := by decide +kernel
theorem s152_21 {d : Nat} {st : List Value} {σ : am_I} {ρ : am_R} {g : am_J} {τ : am_T} {Q : am_Q} {x0 x1 x2 x3 x4 x5 : Value} : AW d 152 21 [x0, x1, x2, x3, x4, x5] (st) σ ρ g τ Q = AW d 152 22 [x0, x1, x2, x3, x4, x5] (.int 0 :: st) σ ρ g τ Q := aw_lc m152 d152_21 rfl rfl rfl
theorem d152_22 : decode cX11_judge 22 = .ok (.istore_n 2, 1) := by decide +kernel
theorem s152_22 {d : Nat} {st : List Value} {σ : am_I} {ρ : am_R} {g : am_J} {τ : am_T} {Q : am_Q} {x0 x2 x3 x4 x5 : Value} {v : Int32} {u : Int32} : AW d 152 22 [x0, .int u, x2, x3, x4, x5] (.int v :: st) σ ρ g τ Q = AW d 152 23 [x0, .int u, .int v, x3, x4, x5] (st) σ ρ g τ Q := aw_lc m152 d152_22 rfl rfl rfl
theorem d152_23 : decode cX11_judge 23 = .ok (.iconst (-1), 1) := by decide +kernel
theorem s152_23 {d : Nat} {st : List Value} {σ : am_I} {ρ : am_R} {g : am_J} {τ : am_T} {Q : am_Q} {x0 x1 x2 x3 x4 x5 : Value} : AW d 152 23 [x0, x1, x2, x3, x4, x5] (st) σ ρ g τ Q = AW d 152 24 [x0, x1, x2, x3, x4, x5] (.int (-1) :: st) σ ρ g τ Q := aw_lc m152 d152_23 rfl rfl rfl
theorem d152_24 : decode cX11_judge 24 = .ok (.istore_n 3, 1) := by decide +kernel
theorem s152_24 {d : Nat} {st : List Value} {σ : am_I} {ρ : am_R} {g : am_J} {τ : am_T} {Q : am_Q} {x0 x1 x3 x4 x5 : Value} {v : Int32} {u : Int32} : AW d 152 24 [x0, x1, .int u, x3, x4, x5] (.int v :: st) σ ρ g τ Q = AW d 152 25 [x0, x1, .int u, .int v, x4, x5] (st) σ ρ g τ Q := aw_lc m152 d152_24 rfl rfl rfl
theorem d152_25 : decode cX11_judge 25 = .ok (.iconst 0, 1) := by decide +kernel
theorem s152_25 {d : Nat} {st : List Value} {σ : am_I} {ρ : am_R} {g : am_J} {τ : am_T} {Q : am_Q} {x0 x1 x2 x3 x4 x5 : Value} : AW d 152 25 [x0, x1, x2, x3, x4, x5] (st) σ ρ g τ Q = AW d 152 26 [x0, x1, x2, x3, x4, x5] (.int 0 :: st) σ ρ g τ Q := aw_lc m152 d152_25 rfl rfl rfl
theorem d152_26 : decode cX11_judge 26 = .ok (.istore 4, 2) := by decide +kernel
theorem s152_26 {d : Nat} {st : List Value} {σ : am_I} {ρ : am_R} {g : am_J} {τ : am_T} {Q : am_Q} {x0 x1 x2 x4 x5 : Value} {v : Int32} {u : Int32} : AW d 152 26 [x0, x1, x2, .int u, x4, x5] (.int v :: st) σ ρ g τ Q = AW d 152 28 [x0, x1, x2, .int u, .int v, x5] (st) σ ρ g τ Q := aw_lc m152 d152_26 rfl rfl rfl
theorem d152_28 : decode cX11_judge 28 = .ok (.iload 4, 2) := by decide +kernel
theorem s152_28 {d : Nat} {st : List Value} {σ : am_I} {ρ : am_R} {g : am_J} {τ : am_T} {Q : am_Q} {x0 x1 x2 x3 x5 : Value} {v : Int32} : AW d 152 28 [x0, x1, x2, x3, .int v, x5] (st) σ ρ g τ Q = AW d 152 30 [x0, x1, x2, x3, .int v, x5] (.int v :: st) σ ρ g τ Q := aw_lc m152 d152_28 rfl rfl rfl
theorem d152_30 : decode cX11_judge 30 = .ok (.aload_n 0, 1) := by decide +kernel
theorem s152_30 {d : Nat} {st : List Value} {σ : am_I} {ρ : am_R} {g : am_J} {τ : am_T} {Q : am_Q} {x1 x2 x3 x4 x5 : Value} {v : Nat} : AW d 152 30 [.ref v, x1, x2, x3, x4, x5] (st) σ ρ g τ Q = AW d 152 31 [.ref v, x1, x2, x3, x4, x5] (.ref v :: st) σ ρ g τ Q := aw_lc m152 d152_30 rfl rfl rfl
theorem d152_31 : decode cX11_judge 31 = .ok (.getfield 49, 3) := by decide +kernel
theorem s152_31 {d : Nat} {st : List Value} {σ : am_I} {ρ : am_R} {g : am_J} {τ : am_T} {Q : am_Q} {x0 x1 x2 x3 x4 x5 : Value} {a : Nat} (ht : τ.1 a = 11) : AW d 152 31 [x0, x1, x2, x3, x4, x5] (.ref a :: st) σ ρ g τ Q = AW d 152 34 [x0, x1, x2, x3, x4, x5] (va_rf (ρ a 6) :: st) σ ρ g τ Q := aw_gr m152 d152_31 rfl rfl rfl ht
theorem d152_34 : decode cX11_judge 34 = .ok (.getfield 359, 3) := by decide +kernel
theorem s152_34 {d : Nat} {st : List Value} {σ : am_I} {ρ : am_R} {g : am_J} {τ : am_T} {Q : am_Q} {x0 x1 x2 x3 x4 x5 : Value} {a : Nat} (ht : τ.1 a = 4) : AW d 152 34 [x0, x1, x2, x3, x4, x5] (.ref a :: st) σ ρ g τ Q = AW d 152 37 [x0, x1, x2, x3, x4, x5] (.int (σ a 3) :: st) σ ρ g τ Q := aw_gi m152 d152_34 rfl rfl rfl ht
theorem d152_37 : decode cX11_judge 37 = .ok (.if_icmp .ge 76, 3) := by decide +kernel
theorem s152_37 {d : Nat} {st : List Value} {σ : am_I} {ρ : am_R} {g : am_J} {τ : am_T} {Q : am_Q} {x0 x1 x2 x3 x4 x5 : Value} {v w : Int32} : AW d 152 37 [x0, x1, x2, x3, x4, x5] (.int w :: .int v :: st) σ ρ g τ Q = if w ≤ v then AW d 152 113 [x0, x1, x2, x3, x4, x5] (st) σ ρ g τ Q else AW d 152 40 [x0, x1, x2, x3, x4, x5] (st) σ ρ g τ Q := aw_br m152 d152_37 rfl rfl rfl
theorem d152_40 : decode cX11_judge 40 = .ok (.aload_n 0, 1) := by decide +kernel
theorem s152_40 {d : Nat} {st : List Value} {σ : am_I} {ρ : am_R} {g : am_J} {τ : am_T} {Q : am_Q} {x1 x2 x3 x4 x5 : Value} {v : Nat} : AW d 152 40 [.ref v, x1, x2, x3, x4, x5] (st) σ ρ g τ Q = AW d 152 41 [.ref v, x1, x2, x3, x4, x5] (.ref v :: st) σ ρ g τ Q := aw_lc m152 d152_40 rfl rfl rfl
theorem d152_41 : decode cX11_judge 41 = .ok (.getfield 49, 3) := by decide +kernel
theorem s152_41 {d : Nat} {st : List Value} {σ : am_I} {ρ : am_R} {g : am_J} {τ : am_T} {Q : am_Q} {x0 x1 x2 x3 x4 x5 : Value} {a : Nat} (ht : τ.1 a = 11) : AW d 152 41 [x0, x1, x2, x3, x4, x5] (.ref a :: st) σ ρ g τ Q = AW d 152 44 [x0, x1, x2, x3, x4, x5] (va_rf (ρ a 6) :: st) σ ρ g τ Q := aw_gr m152 d152_41 rfl rfl rfl ht
theorem d152_44 : decode cX11_judge 44 = .ok (.iload 4, 2) := by decide +kernel
theorem s152_44 {d : Nat} {st : List Value} {σ : am_I} {ρ : am_R} {g : am_J} {τ : am_T} {Q : am_Q} {x0 x1 x2 x3 x5 : Value} {v : Int32} : AW d 152 44 [x0, x1, x2, x3, .int v, x5] (st) σ ρ g τ Q = AW d 152 46 [x0, x1, x2, x3, .int v, x5] (.int v :: st) σ ρ g τ Q := aw_lc m152 d152_44 rfl rfl rfl
theorem d152_46 : decode cX11_judge 46 = .ok (.iconst 0, 1) := by decide +kernel
theorem s152_46 {d : Nat} {st : List Value} {σ : am_I} {ρ : am_R} {g : am_J} {τ : am_T} {Q : am_Q} {x0 x1 x2 x3 x4 x5 : Value} : AW d 152 46 [x0, x1, x2, x3, x4, x5] (st) σ ρ g τ Q = AW d 152 47 [x0, x1, x2, x3, x4, x5] (.int 0 :: st) σ ρ g τ Q := aw_lc m152 d152_46 rfl rfl rfl
theorem d152_47 : decode cX11_judge 47 = .ok (.invokevirtual 339, 3) := by decide +kernel
theorem s152_47 {d : Nat} {st : List Value} {σ : am_I} {ρ : am_R} {g : am_J} {τ : am_T} {Q : am_Q} {x0 x1 x2 x3 x4 x5 : Value} {p0 : Nat} {p1 : Int32} {p2 : Int32} (ht : τ.1 p0 = 4) (hs : st.length ≤ 4) : AW (d + 1) 152 47 [x0, x1, x2, x3, x4, x5] (.int p2 :: .int p1 :: .ref p0 :: st) σ ρ g τ Q = AW d 46 0 [.ref p0, .int p1, .int p2] [] σ ρ g τ (fun r9 σ ρ g τ => AW (d + 1) 152 50 [x0, x1, x2, x3, x4, x5] (r9.toList ++ st) σ ρ g τ Q) := aw_cv m152 d152_47 rfl m46 rfl rfl (by decide) en46 ok46 rfl ht hs
theorem d152_50 : decode cX11_judge 50 = .ok (.istore 5, 2) := by decide +kernel
theorem s152_50 {d : Nat} {st : List Value} {σ : am_I} {ρ : am_R} {g : am_J} {τ : am_T} {Q : am_Q} {x0 x1 x2 x3 x5 : Value} {v : Int32} {u : Int32} : AW d 152 50 [x0, x1, x2, x3, .int u, x5] (.int v :: st) σ ρ g τ Q = AW d 152 52 [x0, x1, x2, x3, .int u, .int v] (st) σ ρ g τ Q := aw_lc m152 d152_50 rfl rfl rfl
theorem d152_52 : decode cX11_judge 52 = .ok (.iload 5, 2) := by decide +kernel
theorem s152_52 {d : Nat} {st : List Value} {σ : am_I} {ρ : am_R} {g : am_J} {τ : am_T} {Q : am_Q} {x0 x1 x2 x3 x4 : Value} {v : Int32} : AW d 152 52 [x0, x1, x2, x3, x4, .int v] (st) σ ρ g τ Q = AW d 152 54 [x0, x1, x2, x3, x4, .int v] (.int v :: st) σ ρ g τ Q := aw_lc m152 d152_52 rfl rfl rfl
theorem d152_54 : decode cX11_judge 54 = .ok (.iload_n 3, 1) := by decide +kernel
theorem s152_54 {d : Nat} {st : List Value} {σ : am_I} {ρ : am_R} {g : am_J} {τ : am_T} {Q : am_Q} {x0 x1 x2 x4 x5 : Value} {v : Int32} : AW d 152 54 [x0, x1, x2, .int v, x4, x5] (st) σ ρ g τ Q = AW d 152 55 [x0, x1, x2, .int v, x4, x5] (.int v :: st) σ ρ g τ Q := aw_lc m152 d152_54 rfl rfl rfl
theorem d152_55 : decode cX11_judge 55 = .ok (.if_icmp .le 18, 3) := by decide +kernel
theorem s152_55 {d : Nat} {st : List Value} {σ : am_I} {ρ : am_R} {g : am_J} {τ : am_T} {Q : am_Q} {x0 x1 x2 x3 x4 x5 : Value} {v w : Int32} : AW d 152 55 [x0, x1, x2, x3, x4, x5] (.int w :: .int v :: st) σ ρ g τ Q = if v ≤ w then AW d 152 73 [x0, x1, x2, x3, x4, x5] (st) σ ρ g τ Q else AW d 152 58 [x0, x1, x2, x3, x4, x5] (st) σ ρ g τ Q := aw_br m152 d152_55 rfl rfl rfl
theorem d152_58 : decode cX11_judge 58 = .ok (.aload_n 0, 1) := by decide +kernel
theorem s152_58 {d : Nat} {st : List Value} {σ : am_I} {ρ : am_R} {g : am_J} {τ : am_T} {Q : am_Q} {x1 x2 x3 x4 x5 : Value} {v : Nat} : AW d 152 58 [.ref v, x1, x2, x3, x4, x5] (st) σ ρ g τ Q = AW d 152 59 [.ref v, x1, x2, x3, x4, x5] (.ref v :: st) σ ρ g τ Q := aw_lc m152 d152_58 rfl rfl rfl
theorem d152_59 : decode cX11_judge 59 = .ok (.getfield 10, 3) := by decide +kernel
theorem s152_59 {d : Nat} {st : List Value} {σ : am_I} {ρ : am_R} {g : am_J} {τ : am_T} {Q : am_Q} {x0 x1 x2 x3 x4 x5 : Value} {a : Nat} (ht : τ.1 a = 11) : AW d 152 59 [x0, x1, x2, x3, x4, x5] (.ref a :: st) σ ρ g τ Q = AW d 152 62 [x0, x1, x2, x3, x4, x5] (va_rf (ρ a 0) :: st) σ ρ g τ Q := aw_gr m152 d152_59 rfl rfl rfl ht
theorem d152_62 : decode cX11_judge 62 = .ok (.getfield 387, 3) := by decide +kernel
theorem s152_62 {d : Nat} {st : List Value} {σ : am_I} {ρ : am_R} {g : am_J} {τ : am_T} {Q : am_Q} {x0 x1 x2 x3 x4 x5 : Value} {a : Nat} (ht : τ.1 a = 3) : AW d 152 62 [x0, x1, x2, x3, x4, x5] (.ref a :: st) σ ρ g τ Q = AW d 152 65 [x0, x1, x2, x3, x4, x5] (va_rf (ρ a 15) :: st) σ ρ g τ Q := aw_gr m152 d152_62 rfl rfl rfl ht
theorem d152_65 : decode cX11_judge 65 = .ok (.iload 5, 2) := by decide +kernel
theorem s152_65 {d : Nat} {st : List Value} {σ : am_I} {ρ : am_R} {g : am_J} {τ : am_T} {Q : am_Q} {x0 x1 x2 x3 x4 : Value} {v : Int32} : AW d 152 65 [x0, x1, x2, x3, x4, .int v] (st) σ ρ g τ Q = AW d 152 67 [x0, x1, x2, x3, x4, .int v] (.int v :: st) σ ρ g τ Q := aw_lc m152 d152_65 rfl rfl rfl
theorem d152_67 : decode cX11_judge 67 = .ok (.invokevirtual 336, 3) := by decide +kernel
theorem s152_67 {d : Nat} {st : List Value} {σ : am_I} {ρ : am_R} {g : am_J} {τ : am_T} {Q : am_Q} {x0 x1 x2 x3 x4 x5 : Value} {p0 : Nat} {p1 : Int32} (ht : τ.1 p0 = 4) (hs : st.length ≤ 4) : AW (d + 1) 152 67 [x0, x1, x2, x3, x4, x5] (.int p1 :: .ref p0 :: st) σ ρ g τ Q = AW d 44 0 [.ref p0, .int p1] [] σ ρ g τ (fun r9 σ ρ g τ => AW (d + 1) 152 70 [x0, x1, x2, x3, x4, x5] (r9.toList ++ st) σ ρ g τ Q) := aw_cv m152 d152_67 rfl m44 rfl rfl (by decide) en44 ok44 rfl ht hs
theorem d152_70 : decode cX11_judge 70 = .ok (.ifCond .ne 8, 3) := by decide +kernel
theorem s152_70 {d : Nat} {st : List Value} {σ : am_I} {ρ : am_R} {g : am_J} {τ : am_T} {Q : am_Q} {x0 x1 x2 x3 x4 x5 : Value} {v : Int32} : AW d 152 70 [x0, x1, x2, x3, x4, x5] (.int v :: st) σ ρ g τ Q = if ¬ v = 0 then AW d 152 78 [x0, x1, x2, x3, x4, x5] (st) σ ρ g τ Q else AW d 152 73 [x0, x1, x2, x3, x4, x5] (st) σ ρ g τ Q := aw_br m152 d152_70 rfl rfl rfl
theorem d152_73 : decode cX11_judge 73 = .ok (.iload 4, 2) := by decide +kernel
theorem s152_73 {d : Nat} {st : List Value} {σ : am_I} {ρ : am_R} {g : am_J} {τ : am_T} {Q : am_Q} {x0 x1 x2 x3 x5 : Value} {v : Int32} : AW d 152 73 [x0, x1, x2, x3, .int v, x5] (st) σ ρ g τ Q = AW d 152 75 [x0, x1, x2, x3, .int v, x5] (.int v :: st) σ ρ g τ Q := aw_lc m152 d152_73 rfl rfl rfl
theorem d152_75 : decode cX11_judge 75 = .ok (.iconst 1, 1) := by decide +kernel
theorem s152_75 {d : Nat} {st : List Value} {σ : am_I} {ρ : am_R} {g : am_J} {τ : am_T} {Q : am_Q} {x0 x1 x2 x3 x4 x5 : Value} : AW d 152 75 [x0, x1, x2, x3, x4, x5] (st) σ ρ g τ Q = AW d 152 76 [x0, x1, x2, x3, x4, x5] (.int 1 :: st) σ ρ g τ Q := aw_lc m152 d152_75 rfl rfl rfl
theorem d152_76 : decode cX11_judge 76 = .ok (.iadd, 1) := by decide +kernel
theorem s152_76 {d : Nat} {st : List Value} {σ : am_I} {ρ : am_R} {g : am_J} {τ : am_T} {Q : am_Q} {x0 x1 x2 x3 x4 x5 : Value} {v w : Int32} : AW d 152 76 [x0, x1, x2, x3, x4, x5] (.int w :: .int v :: st) σ ρ g τ Q = AW d 152 77 [x0, x1, x2, x3, x4, x5] (.int (v + w) :: st) σ ρ g τ Q := aw_lc m152 d152_76 rfl rfl rfl
theorem d152_77 : decode cX11_judge 77 = .ok (.ireturn, 1) := by decide +kernel
theorem s152_77 {d : Nat} {σ : am_I} {ρ : am_R} {g : am_J} {τ : am_T} {Q : am_Q} {x0 x1 x2 x3 x4 x5 : Value} {v : Int32} : AW d 152 77 [x0, x1, x2, x3, x4, x5] ([.int v]) σ ρ g τ Q = Q (some (.int v)) σ ρ g τ := aw_ri m152 d152_77 rfl
theorem d152_78 : decode cX11_judge 78 = .ok (.aload_n 0, 1) := by decide +kernel
theorem s152_78 {d : Nat} {st : List Value} {σ : am_I} {ρ : am_R} {g : am_J} {τ : am_T} {Q : am_Q} {x1 x2 x3 x4 x5 : Value} {v : Nat} : AW d 152 78 [.ref v, x1, x2, x3, x4, x5] (st) σ ρ g τ Q = AW d 152 79 [.ref v, x1, x2, x3, x4, x5] (.ref v :: st) σ ρ g τ Q := aw_lc m152 d152_78 rfl rfl rfl
theorem d152_79 : decode cX11_judge 79 = .ok (.iload 5, 2) := by decide +kernel
theorem s152_79 {d : Nat} {st : List Value} {σ : am_I} {ρ : am_R} {g : am_J} {τ : am_T} {Q : am_Q} {x0 x1 x2 x3 x4 : Value} {v : Int32} : AW d 152 79 [x0, x1, x2, x3, x4, .int v] (st) σ ρ g τ Q = AW d 152 81 [x0, x1, x2, x3, x4, .int v] (.int v :: st) σ ρ g τ Q := aw_lc m152 d152_79 rfl rfl rfl
theorem d152_81 : decode cX11_judge 81 = .ok (.invokevirtual 405, 3) := by decide +kernel
theorem s152_81 {d : Nat} {st : List Value} {σ : am_I} {ρ : am_R} {g : am_J} {τ : am_T} {Q : am_Q} {x0 x1 x2 x3 x4 x5 : Value} {p0 : Nat} {p1 : Int32} (ht : τ.1 p0 = 11) (hs : st.length ≤ 4) : AW (d + 1) 152 81 [x0, x1, x2, x3, x4, x5] (.int p1 :: .ref p0 :: st) σ ρ g τ Q = AW d 146 0 [.ref p0, .int p1, am_jk] [] σ ρ g τ (fun r9 σ ρ g τ => AW (d + 1) 152 84 [x0, x1, x2, x3, x4, x5] (r9.toList ++ st) σ ρ g τ Q) := aw_cv m152 d152_81 rfl m146 rfl rfl (by decide) en146 ok146 rfl ht hs
theorem d152_84 : decode cX11_judge 84 = .ok (.istore_n 2, 1) := by decide +kernel
theorem s152_84 {d : Nat} {st : List Value} {σ : am_I} {ρ : am_R} {g : am_J} {τ : am_T} {Q : am_Q} {x0 x2 x3 x4 x5 : Value} {v : Int32} {u : Int32} : AW d 152 84 [x0, .int u, x2, x3, x4, x5] (.int v :: st) σ ρ g τ Q = AW d 152 85 [x0, .int u, .int v, x3, x4, x5] (st) σ ρ g τ Q := aw_lc m152 d152_84 rfl rfl rfl
theorem d152_85 : decode cX11_judge 85 = .ok (.iload_n 2, 1) := by decide +kernel
theorem s152_85 {d : Nat} {st : List Value} {σ : am_I} {ρ : am_R} {g : am_J} {τ : am_T} {Q : am_Q} {x0 x1 x3 x4 x5 : Value} {v : Int32} : AW d 152 85 [x0, x1, .int v, x3, x4, x5] (st) σ ρ g τ Q = AW d 152 86 [x0, x1, .int v, x3, x4, x5] (.int v :: st) σ ρ g τ Q := aw_lc m152 d152_85 rfl rfl rfl
theorem d152_86 : decode cX11_judge 86 = .ok (.aload_n 0, 1) := by decide +kernel
theorem s152_86 {d : Nat} {st : List Value} {σ : am_I} {ρ : am_R} {g : am_J} {τ : am_T} {Q : am_Q} {x1 x2 x3 x4 x5 : Value} {v : Nat} : AW d 152 86 [.ref v, x1, x2, x3, x4, x5] (st) σ ρ g τ Q = AW d 152 87 [.ref v, x1, x2, x3, x4, x5] (.ref v :: st) σ ρ g τ Q := aw_lc m152 d152_86 rfl rfl rfl
theorem d152_87 : decode cX11_judge 87 = .ok (.getfield 49, 3) := by decide +kernel
theorem s152_87 {d : Nat} {st : List Value} {σ : am_I} {ρ : am_R} {g : am_J} {τ : am_T} {Q : am_Q} {x0 x1 x2 x3 x4 x5 : Value} {a : Nat} (ht : τ.1 a = 11) : AW d 152 87 [x0, x1, x2, x3, x4, x5] (.ref a :: st) σ ρ g τ Q = AW d 152 90 [x0, x1, x2, x3, x4, x5] (va_rf (ρ a 6) :: st) σ ρ g τ Q := aw_gr m152 d152_87 rfl rfl rfl ht
theorem d152_90 : decode cX11_judge 90 = .ok (.iload 4, 2) := by decide +kernel
theorem s152_90 {d : Nat} {st : List Value} {σ : am_I} {ρ : am_R} {g : am_J} {τ : am_T} {Q : am_Q} {x0 x1 x2 x3 x5 : Value} {v : Int32} : AW d 152 90 [x0, x1, x2, x3, .int v, x5] (st) σ ρ g τ Q = AW d 152 92 [x0, x1, x2, x3, .int v, x5] (.int v :: st) σ ρ g τ Q := aw_lc m152 d152_90 rfl rfl rfl
theorem d152_92 : decode cX11_judge 92 = .ok (.iconst 1, 1) := by decide +kernel
theorem s152_92 {d : Nat} {st : List Value} {σ : am_I} {ρ : am_R} {g : am_J} {τ : am_T} {Q : am_Q} {x0 x1 x2 x3 x4 x5 : Value} : AW d 152 92 [x0, x1, x2, x3, x4, x5] (st) σ ρ g τ Q = AW d 152 93 [x0, x1, x2, x3, x4, x5] (.int 1 :: st) σ ρ g τ Q := aw_lc m152 d152_92 rfl rfl rfl
theorem d152_93 : decode cX11_judge 93 = .ok (.invokevirtual 339, 3) := by decide +kernel
theorem s152_93 {d : Nat} {st : List Value} {σ : am_I} {ρ : am_R} {g : am_J} {τ : am_T} {Q : am_Q} {x0 x1 x2 x3 x4 x5 : Value} {p0 : Nat} {p1 : Int32} {p2 : Int32} (ht : τ.1 p0 = 4) (hs : st.length ≤ 4) : AW (d + 1) 152 93 [x0, x1, x2, x3, x4, x5] (.int p2 :: .int p1 :: .ref p0 :: st) σ ρ g τ Q = AW d 46 0 [.ref p0, .int p1, .int p2] [] σ ρ g τ (fun r9 σ ρ g τ => AW (d + 1) 152 96 [x0, x1, x2, x3, x4, x5] (r9.toList ++ st) σ ρ g τ Q) := aw_cv m152 d152_93 rfl m46 rfl rfl (by decide) en46 ok46 rfl ht hs
theorem d152_96 : decode cX11_judge 96 = .ok (.if_icmp .eq 8, 3) := by decide +kernel
theorem s152_96 {d : Nat} {st : List Value} {σ : am_I} {ρ : am_R} {g : am_J} {τ : am_T} {Q : am_Q} {x0 x1 x2 x3 x4 x5 : Value} {v w : Int32} : AW d 152 96 [x0, x1, x2, x3, x4, x5] (.int w :: .int v :: st) σ ρ g τ Q = if v = w then AW d 152 104 [x0, x1, x2, x3, x4, x5] (st) σ ρ g τ Q else AW d 152 99 [x0, x1, x2, x3, x4, x5] (st) σ ρ g τ Q := aw_br m152 d152_96 rfl rfl rfl
theorem d152_99 : decode cX11_judge 99 = .ok (.iload 4, 2) := by decide +kernel
theorem s152_99 {d : Nat} {st : List Value} {σ : am_I} {ρ : am_R} {g : am_J} {τ : am_T} {Q : am_Q} {x0 x1 x2 x3 x5 : Value} {v : Int32} : AW d 152 99 [x0, x1, x2, x3, .int v, x5] (st) σ ρ g τ Q = AW d 152 101 [x0, x1, x2, x3, .int v, x5] (.int v :: st) σ ρ g τ Q := aw_lc m152 d152_99 rfl rfl rfl
theorem d152_101 : decode cX11_judge 101 = .ok (.iconst 1, 1) := by decide +kernel
theorem s152_101 {d : Nat} {st : List Value} {σ : am_I} {ρ : am_R} {g : am_J} {τ : am_T} {Q : am_Q} {x0 x1 x2 x3 x4 x5 : Value} : AW d 152 101 [x0, x1, x2, x3, x4, x5] (st) σ ρ g τ Q = AW d 152 102 [x0, x1, x2, x3, x4, x5] (.int 1 :: st) σ ρ g τ Q := aw_lc m152 d152_101 rfl rfl rfl
theorem d152_102 : decode cX11_judge 102 = .ok (.iadd, 1) := by decide +kernel
theorem s152_102 {d : Nat} {st : List Value} {σ : am_I} {ρ : am_R} {g : am_J} {τ : am_T} {Q : am_Q} {x0 x1 x2 x3 x4 x5 : Value} {v w : Int32} : AW d 152 102 [x0, x1, x2, x3, x4, x5] (.int w :: .int v :: st) σ ρ g τ Q = AW d 152 103 [x0, x1, x2, x3, x4, x5] (.int (v + w) :: st) σ ρ g τ Q := aw_lc m152 d152_102 rfl rfl rfl
theorem d152_103 : decode cX11_judge 103 = .ok (.ireturn, 1) := by decide +kernel
theorem s152_103 {d : Nat} {σ : am_I} {ρ : am_R} {g : am_J} {τ : am_T} {Q : am_Q} {x0 x1 x2 x3 x4 x5 : Value} {v : Int32} : AW d 152 103 [x0, x1, x2, x3, x4, x5] ([.int v]) σ ρ g τ Q = Q (some (.int v)) σ ρ g τ := aw_ri m152 d152_103 rfl
theorem d152_104 : decode cX11_judge 104 = .ok (.iload 5, 2) := by decide +kernel
theorem s152_104 {d : Nat} {st : List Value} {σ : am_I} {ρ : am_R} {g : am_J} {τ : am_T} {Q : am_Q} {x0 x1 x2 x3 x4 : Value} {v : Int32} : AW d 152 104 [x0, x1, x2, x3, x4, .int v] (st) σ ρ g τ Q = AW d 152 106 [x0, x1, x2, x3, x4, .int v] (.int v :: st) σ ρ g τ Q := aw_lc m152 d152_104 rfl rfl rfl
theorem d152_106 : decode cX11_judge 106 = .ok (.istore_n 3, 1) := by decide +kernel
theorem s152_106 {d : Nat} {st : List Value} {σ : am_I} {ρ : am_R} {g : am_J} {τ : am_T} {Q : am_Q} {x0 x1 x3 x4 x5 : Value} {v : Int32} {u : Int32} : AW d 152 106 [x0, x1, .int u, x3, x4, x5] (.int v :: st) σ ρ g τ Q = AW d 152 107 [x0, x1, .int u, .int v, x4, x5] (st) σ ρ g τ Q := aw_lc m152 d152_106 rfl rfl rfl
theorem d152_107 : decode cX11_judge 107 = .ok (.iinc 4 1, 3) := by decide +kernel
theorem s152_107 {d : Nat} {st : List Value} {σ : am_I} {ρ : am_R} {g : am_J} {τ : am_T} {Q : am_Q} {x0 x1 x2 x5 : Value} {v : Int32} {u : Int32} : AW d 152 107 [x0, x1, x2, .int u, .int v, x5] (st) σ ρ g τ Q = AW d 152 110 [x0, x1, x2, .int u, .int (v + 1), x5] (st) σ ρ g τ Q := aw_lc m152 d152_107 rfl rfl rfl
theorem d152_110 : decode cX11_judge 110 = .ok (.goto (-82), 3) := by decide +kernel
theorem s152_110 {d : Nat} {st : List Value} {σ : am_I} {ρ : am_R} {g : am_J} {τ : am_T} {Q : am_Q} {x0 x1 x2 x3 x4 x5 : Value} : AW d 152 110 [x0, x1, x2, x3, x4, x5] (st) σ ρ g τ Q = AW d 152 28 [x0, x1, x2, x3, x4, x5] (st) σ ρ g τ Q := aw_lc m152 d152_110 rfl rfl rfl
theorem d152_113 : decode cX11_judge 113 = .ok (.iload_n 2, 1) := by decide +kernel
theorem s152_113 {d : Nat} {st : List Value} {σ : am_I} {ρ : am_R} {g : am_J} {τ : am_T} {Q : am_Q} {x0 x1 x3 x4 x5 : Value} {v : Int32} : AW d 152 113 [x0, x1, .int v, x3, x4, x5] (st) σ ρ g τ Q = AW d 152 114 [x0, x1, .int v, x3, x4, x5] (.int v :: st) σ ρ g τ Q := aw_lc m152 d152_113 rfl rfl rfl
theorem d152_114 : decode cX11_judge 114 = .ok (.iload_n 1, 1) := by decide +kernel
theorem s152_114 {d : Nat} {st : List Value} {σ : am_I} {ρ : am_R} {g : am_J} {τ : am_T} {Q : am_Q} {x0 x2 x3 x4 x5 : Value} {v : Int32} : AW d 152 114 [x0, .int v, x2, x3, x4, x5] (st) σ ρ g τ Q = AW d 152 115 [x0, .int v, x2, x3, x4, x5] (.int v :: st) σ ρ g τ Q := aw_lc m152 d152_114 rfl rfl rfl
theorem d152_115 : decode cX11_judge 115 = .ok (.if_icmp .lt 7, 3) := by decide +kernel
theorem s152_115 {d : Nat} {st : List Value} {σ : am_I} {ρ : am_R} {g : am_J} {τ : am_T} {Q : am_Q} {x0 x1 x2 x3 x4 x5 : Value} {v w : Int32} : AW d 152 115 [x0, x1, x2, x3, x4, x5] (.int w :: .int v :: st) σ ρ g τ Q = if v < w then AW d 152 122 [x0, x1, x2, x3, x4, x5] (st) σ ρ g τ Q else AW d 152 118 [x0, x1, x2, x3, x4, x5] (st) σ ρ g τ Q := aw_br m152 d152_115 rfl rfl rfl
theorem d152_118 : decode cX11_judge 118 = .ok (.iconst 0, 1) := by decide +kernel
theorem s152_118 {d : Nat} {st : List Value} {σ : am_I} {ρ : am_R} {g : am_J} {τ : am_T} {Q : am_Q} {x0 x1 x2 x3 x4 x5 : Value} : AW d 152 118 [x0, x1, x2, x3, x4, x5] (st) σ ρ g τ Q = AW d 152 119 [x0, x1, x2, x3, x4, x5] (.int 0 :: st) σ ρ g τ Q := aw_lc m152 d152_118 rfl rfl rfl
theorem d152_119 : decode cX11_judge 119 = .ok (.goto 12, 3) := by decide +kernel
theorem s152_119 {d : Nat} {st : List Value} {σ : am_I} {ρ : am_R} {g : am_J} {τ : am_T} {Q : am_Q} {x0 x1 x2 x3 x4 x5 : Value} : AW d 152 119 [x0, x1, x2, x3, x4, x5] (st) σ ρ g τ Q = AW d 152 131 [x0, x1, x2, x3, x4, x5] (st) σ ρ g τ Q := aw_lc m152 d152_119 rfl rfl rfl
theorem d152_122 : decode cX11_judge 122 = .ok (.aload_n 0, 1) := by decide +kernel
theorem s152_122 {d : Nat} {st : List Value} {σ : am_I} {ρ : am_R} {g : am_J} {τ : am_T} {Q : am_Q} {x1 x2 x3 x4 x5 : Value} {v : Nat} : AW d 152 122 [.ref v, x1, x2, x3, x4, x5] (st) σ ρ g τ Q = AW d 152 123 [.ref v, x1, x2, x3, x4, x5] (.ref v :: st) σ ρ g τ Q := aw_lc m152 d152_122 rfl rfl rfl
theorem d152_123 : decode cX11_judge 123 = .ok (.getfield 49, 3) := by decide +kernel
theorem s152_123 {d : Nat} {st : List Value} {σ : am_I} {ρ : am_R} {g : am_J} {τ : am_T} {Q : am_Q} {x0 x1 x2 x3 x4 x5 : Value} {a : Nat} (ht : τ.1 a = 11) : AW d 152 123 [x0, x1, x2, x3, x4, x5] (.ref a :: st) σ ρ g τ Q = AW d 152 126 [x0, x1, x2, x3, x4, x5] (va_rf (ρ a 6) :: st) σ ρ g τ Q := aw_gr m152 d152_123 rfl rfl rfl ht
theorem d152_126 : decode cX11_judge 126 = .ok (.getfield 359, 3) := by decide +kernel
theorem s152_126 {d : Nat} {st : List Value} {σ : am_I} {ρ : am_R} {g : am_J} {τ : am_T} {Q : am_Q} {x0 x1 x2 x3 x4 x5 : Value} {a : Nat} (ht : τ.1 a = 4) : AW d 152 126 [x0, x1, x2, x3, x4, x5] (.ref a :: st) σ ρ g τ Q = AW d 152 129 [x0, x1, x2, x3, x4, x5] (.int (σ a 3) :: st) σ ρ g τ Q := aw_gi m152 d152_126 rfl rfl rfl ht
theorem d152_129 : decode cX11_judge 129 = .ok (.iconst 1, 1) := by decide +kernel
theorem s152_129 {d : Nat} {st : List Value} {σ : am_I} {ρ : am_R} {g : am_J} {τ : am_T} {Q : am_Q} {x0 x1 x2 x3 x4 x5 : Value} : AW d 152 129 [x0, x1, x2, x3, x4, x5] (st) σ ρ g τ Q = AW d 152 130 [x0, x1, x2, x3, x4, x5] (.int 1 :: st) σ ρ g τ Q := aw_lc m152 d152_129 rfl rfl rfl
theorem d152_130 : decode cX11_judge 130 = .ok (.iadd, 1) := by decide +kernel
theorem s152_130 {d : Nat} {st : List Value} {σ : am_I} {ρ : am_R} {g : am_J} {τ : am_T} {Q : am_Q} {x0 x1 x2 x3 x4 x5 : Value} {v w : Int32} : AW d 152 130 [x0, x1, x2, x3, x4, x5] (.int w :: .int v :: st) σ ρ g τ Q = AW d 152 131 [x0, x1, x2, x3, x4, x5] (.int (v + w) :: st) σ ρ g τ Q := aw_lc m152 d152_130 rfl rfl rfl
theorem d152_131 : decode cX11_judge 131 = .ok (.ireturn, 1) := by decide +kernel
theorem s152_131 {d : Nat} {σ : am_I} {ρ : am_R} {g : am_J} {τ : am_T} {Q : am_Q} {x0 x1 x2 x3 x4 x5 : Value} {v : Int32} : AW d 152 131 [x0, x1, x2, x3, x4, x5] ([.int v]) σ ρ g τ Q = Q (some (.int v)) σ ρ g τ := aw_ri m152 d152_131 rfl
theorem d153_0 : decode cX11_sheet 0 = .ok (.iload_n 1, 1) := by decide +kernel
theorem s153_0 {d : Nat} {st : List Value} {σ : am_I} {ρ : am_R} {g : am_J} {τ : am_T} {Q : am_Q} {x0 x2 x3 : Value} {v : Int32} : AW d 153 0 [x0, .int v, x2, x3] (st) σ ρ g τ Q = AW d 153 1 [x0, .int v, x2, x3] (.int v :: st) σ ρ g τ Q := aw_lc m153 d153_0 rfl rfl rfl
theorem d153_1 : decode cX11_sheet 1 = .ok (.invokestatic 132, 3) := by decide +kernel
theorem s153_1 {d : Nat} {st : List Value} {σ : am_I} {ρ : am_R} {g : am_J} {τ : am_T} {Q : am_Q} {x0 x1 x2 x3 : Value} {p0 : Int32} (hs : st.length ≤ 4) : AW (d + 1) 153 1 [x0, x1, x2, x3] (.int p0 :: st) σ ρ g τ Q = AW d 106 0 [.int p0] [] σ ρ g τ (fun r9 σ ρ g τ => AW (d + 1) 153 4 [x0, x1, x2, x3] (r9.toList ++ st) σ ρ g τ Q) := aw_cs m153 d153_1 rfl (by simp only [List.length_cons]; omega) rfl rfl en106 ok106 rfl hs
theorem d153_4 : decode cX11_sheet 4 = .ok (.ifCond .eq 12, 3) := by decide +kernel
theorem s153_4 {d : Nat} {st : List Value} {σ : am_I} {ρ : am_R} {g : am_J} {τ : am_T} {Q : am_Q} {x0 x1 x2 x3 : Value} {v : Int32} : AW d 153 4 [x0, x1, x2, x3] (.int v :: st) σ ρ g τ Q = if v = 0 then AW d 153 16 [x0, x1, x2, x3] (st) σ ρ g τ Q else AW d 153 7 [x0, x1, x2, x3] (st) σ ρ g τ Q := aw_br m153 d153_4 rfl rfl rfl
theorem d153_7 : decode cX11_sheet 7 = .ok (.iload_n 2, 1) := by decide +kernel
theorem s153_7 {d : Nat} {st : List Value} {σ : am_I} {ρ : am_R} {g : am_J} {τ : am_T} {Q : am_Q} {x0 x1 x3 : Value} {v : Int32} : AW d 153 7 [x0, x1, .int v, x3] (st) σ ρ g τ Q = AW d 153 8 [x0, x1, .int v, x3] (.int v :: st) σ ρ g τ Q := aw_lc m153 d153_7 rfl rfl rfl
theorem d153_8 : decode cX11_sheet 8 = .ok (.iconst (-1), 1) := by decide +kernel
theorem s153_8 {d : Nat} {st : List Value} {σ : am_I} {ρ : am_R} {g : am_J} {τ : am_T} {Q : am_Q} {x0 x1 x2 x3 : Value} : AW d 153 8 [x0, x1, x2, x3] (st) σ ρ g τ Q = AW d 153 9 [x0, x1, x2, x3] (.int (-1) :: st) σ ρ g τ Q := aw_lc m153 d153_8 rfl rfl rfl
theorem d153_9 : decode cX11_sheet 9 = .ok (.iconst 4, 1) := by decide +kernel
theorem s153_9 {d : Nat} {st : List Value} {σ : am_I} {ρ : am_R} {g : am_J} {τ : am_T} {Q : am_Q} {x0 x1 x2 x3 : Value} : AW d 153 9 [x0, x1, x2, x3] (st) σ ρ g τ Q = AW d 153 10 [x0, x1, x2, x3] (.int 4 :: st) σ ρ g τ Q := aw_lc m153 d153_9 rfl rfl rfl
theorem d153_10 : decode cX11_sheet 10 = .ok (.invokestatic 74, 3) := by decide +kernel
theorem s153_10 {d : Nat} {st : List Value} {σ : am_I} {ρ : am_R} {g : am_J} {τ : am_T} {Q : am_Q} {x0 x1 x2 x3 : Value} {p0 : Int32} {p1 : Int32} {p2 : Int32} (hs : st.length ≤ 4) : AW (d + 1) 153 10 [x0, x1, x2, x3] (.int p2 :: .int p1 :: .int p0 :: st) σ ρ g τ Q = AW d 100 0 [.int p0, .int p1, .int p2] [] σ ρ g τ (fun r9 σ ρ g τ => AW (d + 1) 153 13 [x0, x1, x2, x3] (r9.toList ++ st) σ ρ g τ Q) := aw_cs m153 d153_10 rfl (by simp only [List.length_cons]; omega) rfl rfl en100 ok100 rfl hs
theorem d153_13 : decode cX11_sheet 13 = .ok (.ifCond .ne 5, 3) := by decide +kernel
theorem s153_13 {d : Nat} {st : List Value} {σ : am_I} {ρ : am_R} {g : am_J} {τ : am_T} {Q : am_Q} {x0 x1 x2 x3 : Value} {v : Int32} : AW d 153 13 [x0, x1, x2, x3] (.int v :: st) σ ρ g τ Q = if ¬ v = 0 then AW d 153 18 [x0, x1, x2, x3] (st) σ ρ g τ Q else AW d 153 16 [x0, x1, x2, x3] (st) σ ρ g τ Q := aw_br m153 d153_13 rfl rfl rfl
theorem d153_16 : decode cX11_sheet 16 = .ok (.iconst (-1), 1) := by decide +kernel
theorem s153_16 {d : Nat} {st : List Value} {σ : am_I} {ρ : am_R} {g : am_J} {τ : am_T} {Q : am_Q} {x0 x1 x2 x3 : Value} : AW d 153 16 [x0, x1, x2, x3] (st) σ ρ g τ Q = AW d 153 17 [x0, x1, x2, x3] (.int (-1) :: st) σ ρ g τ Q := aw_lc m153 d153_16 rfl rfl rfl
theorem d153_17 : decode cX11_sheet 17 = .ok (.ireturn, 1) := by decide +kernel
theorem s153_17 {d : Nat} {σ : am_I} {ρ : am_R} {g : am_J} {τ : am_T} {Q : am_Q} {x0 x1 x2 x3 : Value} {v : Int32} : AW d 153 17 [x0, x1, x2, x3] ([.int v]) σ ρ g τ Q = Q (some (.int v)) σ ρ g τ := aw_ri m153 d153_17 rfl
theorem d153_18 : decode cX11_sheet 18 = .ok (.iload_n 2, 1) := by decide +kernel
theorem s153_18 {d : Nat} {st : List Value} {σ : am_I} {ρ : am_R} {g : am_J} {τ : am_T} {Q : am_Q} {x0 x1 x3 : Value} {v : Int32} : AW d 153 18 [x0, x1, .int v, x3] (st) σ ρ g τ Q = AW d 153 19 [x0, x1, .int v, x3] (.int v :: st) σ ρ g τ Q := aw_lc m153 d153_18 rfl rfl rfl
theorem d153_19 : decode cX11_sheet 19 = .ok (.iconst (-1), 1) := by decide +kernel
theorem s153_19 {d : Nat} {st : List Value} {σ : am_I} {ρ : am_R} {g : am_J} {τ : am_T} {Q : am_Q} {x0 x1 x2 x3 : Value} : AW d 153 19 [x0, x1, x2, x3] (st) σ ρ g τ Q = AW d 153 20 [x0, x1, x2, x3] (.int (-1) :: st) σ ρ g τ Q := aw_lc m153 d153_19 rfl rfl rfl
theorem d153_20 : decode cX11_sheet 20 = .ok (.if_icmp .ne 15, 3) := by decide +kernel
theorem s153_20 {d : Nat} {st : List Value} {σ : am_I} {ρ : am_R} {g : am_J} {τ : am_T} {Q : am_Q} {x0 x1 x2 x3 : Value} {v w : Int32} : AW d 153 20 [x0, x1, x2, x3] (.int w :: .int v :: st) σ ρ g τ Q = if ¬ v = w then AW d 153 35 [x0, x1, x2, x3] (st) σ ρ g τ Q else AW d 153 23 [x0, x1, x2, x3] (st) σ ρ g τ Q := aw_br m153 d153_20 rfl rfl rfl
theorem d153_23 : decode cX11_sheet 23 = .ok (.aload_n 0, 1) := by decide +kernel
theorem s153_23 {d : Nat} {st : List Value} {σ : am_I} {ρ : am_R} {g : am_J} {τ : am_T} {Q : am_Q} {x1 x2 x3 : Value} {v : Nat} : AW d 153 23 [.ref v, x1, x2, x3] (st) σ ρ g τ Q = AW d 153 24 [.ref v, x1, x2, x3] (.ref v :: st) σ ρ g τ Q := aw_lc m153 d153_23 rfl rfl rfl
theorem d153_24 : decode cX11_sheet 24 = .ok (.getfield 56, 3) := by decide +kernel
theorem s153_24 {d : Nat} {st : List Value} {σ : am_I} {ρ : am_R} {g : am_J} {τ : am_T} {Q : am_Q} {x0 x1 x2 x3 : Value} {a : Nat} (ht : τ.1 a = 11) : AW d 153 24 [x0, x1, x2, x3] (.ref a :: st) σ ρ g τ Q = AW d 153 27 [x0, x1, x2, x3] (va_rf (ρ a 7) :: st) σ ρ g τ Q := aw_gr m153 d153_24 rfl rfl rfl ht
theorem d153_27 : decode cX11_sheet 27 = .ok (.iload_n 1, 1) := by decide +kernel
theorem s153_27 {d : Nat} {st : List Value} {σ : am_I} {ρ : am_R} {g : am_J} {τ : am_T} {Q : am_Q} {x0 x2 x3 : Value} {v : Int32} : AW d 153 27 [x0, .int v, x2, x3] (st) σ ρ g τ Q = AW d 153 28 [x0, .int v, x2, x3] (.int v :: st) σ ρ g τ Q := aw_lc m153 d153_27 rfl rfl rfl
theorem d153_28 : decode cX11_sheet 28 = .ok (.iconst (-1), 1) := by decide +kernel
theorem s153_28 {d : Nat} {st : List Value} {σ : am_I} {ρ : am_R} {g : am_J} {τ : am_T} {Q : am_Q} {x0 x1 x2 x3 : Value} : AW d 153 28 [x0, x1, x2, x3] (st) σ ρ g τ Q = AW d 153 29 [x0, x1, x2, x3] (.int (-1) :: st) σ ρ g τ Q := aw_lc m153 d153_28 rfl rfl rfl
theorem d153_29 : decode cX11_sheet 29 = .ok (.iconst 0, 1) := by decide +kernel
theorem s153_29 {d : Nat} {st : List Value} {σ : am_I} {ρ : am_R} {g : am_J} {τ : am_T} {Q : am_Q} {x0 x1 x2 x3 : Value} : AW d 153 29 [x0, x1, x2, x3] (st) σ ρ g τ Q = AW d 153 30 [x0, x1, x2, x3] (.int 0 :: st) σ ρ g τ Q := aw_lc m153 d153_29 rfl rfl rfl
theorem d153_30 : decode cX11_sheet 30 = .ok (.invokevirtual 408, 3) := by decide +kernel
theorem s153_30 {d : Nat} {st : List Value} {σ : am_I} {ρ : am_R} {g : am_J} {τ : am_T} {Q : am_Q} {x0 x1 x2 x3 : Value} {p0 : Nat} {p1 : Int32} {p2 : Int32} {p3 : Int32} (ht : τ.1 p0 = 2) (hs : st.length ≤ 4) : AW (d + 1) 153 30 [x0, x1, x2, x3] (.int p3 :: .int p2 :: .int p1 :: .ref p0 :: st) σ ρ g τ Q = AW d 15 0 [.ref p0, .int p1, .int p2, .int p3] [] σ ρ g τ (fun r9 σ ρ g τ => AW (d + 1) 153 33 [x0, x1, x2, x3] (r9.toList ++ st) σ ρ g τ Q) := aw_cv m153 d153_30 rfl m15 rfl rfl (by decide) en15 ok15 rfl ht hs
theorem d153_33 : decode cX11_sheet 33 = .ok (.iconst 1, 1) := by decide +kernel
theorem s153_33 {d : Nat} {st : List Value} {σ : am_I} {ρ : am_R} {g : am_J} {τ : am_T} {Q : am_Q} {x0 x1 x2 x3 : Value} : AW d 153 33 [x0, x1, x2, x3] (st) σ ρ g τ Q = AW d 153 34 [x0, x1, x2, x3] (.int 1 :: st) σ ρ g τ Q := aw_lc m153 d153_33 rfl rfl rfl
theorem d153_34 : decode cX11_sheet 34 = .ok (.ireturn, 1) := by decide +kernel
theorem s153_34 {d : Nat} {σ : am_I} {ρ : am_R} {g : am_J} {τ : am_T} {Q : am_Q} {x0 x1 x2 x3 : Value} {v : Int32} : AW d 153 34 [x0, x1, x2, x3] ([.int v]) σ ρ g τ Q = Q (some (.int v)) σ ρ g τ := aw_ri m153 d153_34 rfl
theorem d153_35 : decode cX11_sheet 35 = .ok (.iload_n 3, 1) := by decide +kernel
theorem s153_35 {d : Nat} {st : List Value} {σ : am_I} {ρ : am_R} {g : am_J} {τ : am_T} {Q : am_Q} {x0 x1 x2 : Value} {v : Int32} : AW d 153 35 [x0, x1, x2, .int v] (st) σ ρ g τ Q = AW d 153 36 [x0, x1, x2, .int v] (.int v :: st) σ ρ g τ Q := aw_lc m153 d153_35 rfl rfl rfl
theorem d153_36 : decode cX11_sheet 36 = .ok (.bipush 40, 2) := by decide +kernel
theorem s153_36 {d : Nat} {st : List Value} {σ : am_I} {ρ : am_R} {g : am_J} {τ : am_T} {Q : am_Q} {x0 x1 x2 x3 : Value} : AW d 153 36 [x0, x1, x2, x3] (st) σ ρ g τ Q = AW d 153 38 [x0, x1, x2, x3] (.int 40 :: st) σ ρ g τ Q := aw_lc m153 d153_36 rfl rfl rfl
theorem d153_38 : decode cX11_sheet 38 = .ok (.if_icmp .le 5, 3) := by decide +kernel
theorem s153_38 {d : Nat} {st : List Value} {σ : am_I} {ρ : am_R} {g : am_J} {τ : am_T} {Q : am_Q} {x0 x1 x2 x3 : Value} {v w : Int32} : AW d 153 38 [x0, x1, x2, x3] (.int w :: .int v :: st) σ ρ g τ Q = if v ≤ w then AW d 153 43 [x0, x1, x2, x3] (st) σ ρ g τ Q else AW d 153 41 [x0, x1, x2, x3] (st) σ ρ g τ Q := aw_br m153 d153_38 rfl rfl rfl
theorem d153_41 : decode cX11_sheet 41 = .ok (.iconst (-1), 1) := by decide +kernel
theorem s153_41 {d : Nat} {st : List Value} {σ : am_I} {ρ : am_R} {g : am_J} {τ : am_T} {Q : am_Q} {x0 x1 x2 x3 : Value} : AW d 153 41 [x0, x1, x2, x3] (st) σ ρ g τ Q = AW d 153 42 [x0, x1, x2, x3] (.int (-1) :: st) σ ρ g τ Q := aw_lc m153 d153_41 rfl rfl rfl
theorem d153_42 : decode cX11_sheet 42 = .ok (.ireturn, 1) := by decide +kernel
theorem s153_42 {d : Nat} {σ : am_I} {ρ : am_R} {g : am_J} {τ : am_T} {Q : am_Q} {x0 x1 x2 x3 : Value} {v : Int32} : AW d 153 42 [x0, x1, x2, x3] ([.int v]) σ ρ g τ Q = Q (some (.int v)) σ ρ g τ := aw_ri m153 d153_42 rfl
theorem d153_43 : decode cX11_sheet 43 = .ok (.iload_n 3, 1) := by decide +kernel
theorem s153_43 {d : Nat} {st : List Value} {σ : am_I} {ρ : am_R} {g : am_J} {τ : am_T} {Q : am_Q} {x0 x1 x2 : Value} {v : Int32} : AW d 153 43 [x0, x1, x2, .int v] (st) σ ρ g τ Q = AW d 153 44 [x0, x1, x2, .int v] (.int v :: st) σ ρ g τ Q := aw_lc m153 d153_43 rfl rfl rfl
theorem d153_44 : decode cX11_sheet 44 = .ok (.ifCond .ge 6, 3) := by decide +kernel
theorem s153_44 {d : Nat} {st : List Value} {σ : am_I} {ρ : am_R} {g : am_J} {τ : am_T} {Q : am_Q} {x0 x1 x2 x3 : Value} {v : Int32} : AW d 153 44 [x0, x1, x2, x3] (.int v :: st) σ ρ g τ Q = if 0 ≤ v then AW d 153 50 [x0, x1, x2, x3] (st) σ ρ g τ Q else AW d 153 47 [x0, x1, x2, x3] (st) σ ρ g τ Q := aw_br m153 d153_44 rfl rfl rfl
theorem d153_47 : decode cX11_sheet 47 = .ok (.bipush (-14), 2) := by decide +kernel
theorem s153_47 {d : Nat} {st : List Value} {σ : am_I} {ρ : am_R} {g : am_J} {τ : am_T} {Q : am_Q} {x0 x1 x2 x3 : Value} : AW d 153 47 [x0, x1, x2, x3] (st) σ ρ g τ Q = AW d 153 49 [x0, x1, x2, x3] (.int (-14) :: st) σ ρ g τ Q := aw_lc m153 d153_47 rfl rfl rfl
theorem d153_49 : decode cX11_sheet 49 = .ok (.ireturn, 1) := by decide +kernel
theorem s153_49 {d : Nat} {σ : am_I} {ρ : am_R} {g : am_J} {τ : am_T} {Q : am_Q} {x0 x1 x2 x3 : Value} {v : Int32} : AW d 153 49 [x0, x1, x2, x3] ([.int v]) σ ρ g τ Q = Q (some (.int v)) σ ρ g τ := aw_ri m153 d153_49 rfl
theorem d153_50 : decode cX11_sheet 50 = .ok (.aload_n 0, 1) := by decide +kernel
theorem s153_50 {d : Nat} {st : List Value} {σ : am_I} {ρ : am_R} {g : am_J} {τ : am_T} {Q : am_Q} {x1 x2 x3 : Value} {v : Nat} : AW d 153 50 [.ref v, x1, x2, x3] (st) σ ρ g τ Q = AW d 153 51 [.ref v, x1, x2, x3] (.ref v :: st) σ ρ g τ Q := aw_lc m153 d153_50 rfl rfl rfl
theorem d153_51 : decode cX11_sheet 51 = .ok (.getfield 56, 3) := by decide +kernel
theorem s153_51 {d : Nat} {st : List Value} {σ : am_I} {ρ : am_R} {g : am_J} {τ : am_T} {Q : am_Q} {x0 x1 x2 x3 : Value} {a : Nat} (ht : τ.1 a = 11) : AW d 153 51 [x0, x1, x2, x3] (.ref a :: st) σ ρ g τ Q = AW d 153 54 [x0, x1, x2, x3] (va_rf (ρ a 7) :: st) σ ρ g τ Q := aw_gr m153 d153_51 rfl rfl rfl ht
theorem d153_54 : decode cX11_sheet 54 = .ok (.iload_n 1, 1) := by decide +kernel
theorem s153_54 {d : Nat} {st : List Value} {σ : am_I} {ρ : am_R} {g : am_J} {τ : am_T} {Q : am_Q} {x0 x2 x3 : Value} {v : Int32} : AW d 153 54 [x0, .int v, x2, x3] (st) σ ρ g τ Q = AW d 153 55 [x0, .int v, x2, x3] (.int v :: st) σ ρ g τ Q := aw_lc m153 d153_54 rfl rfl rfl
theorem d153_55 : decode cX11_sheet 55 = .ok (.iload_n 2, 1) := by decide +kernel
theorem s153_55 {d : Nat} {st : List Value} {σ : am_I} {ρ : am_R} {g : am_J} {τ : am_T} {Q : am_Q} {x0 x1 x3 : Value} {v : Int32} : AW d 153 55 [x0, x1, .int v, x3] (st) σ ρ g τ Q = AW d 153 56 [x0, x1, .int v, x3] (.int v :: st) σ ρ g τ Q := aw_lc m153 d153_55 rfl rfl rfl
theorem d153_56 : decode cX11_sheet 56 = .ok (.iload_n 3, 1) := by decide +kernel
theorem s153_56 {d : Nat} {st : List Value} {σ : am_I} {ρ : am_R} {g : am_J} {τ : am_T} {Q : am_Q} {x0 x1 x2 : Value} {v : Int32} : AW d 153 56 [x0, x1, x2, .int v] (st) σ ρ g τ Q = AW d 153 57 [x0, x1, x2, .int v] (.int v :: st) σ ρ g τ Q := aw_lc m153 d153_56 rfl rfl rfl
theorem d153_57 : decode cX11_sheet 57 = .ok (.invokevirtual 408, 3) := by decide +kernel
theorem s153_57 {d : Nat} {st : List Value} {σ : am_I} {ρ : am_R} {g : am_J} {τ : am_T} {Q : am_Q} {x0 x1 x2 x3 : Value} {p0 : Nat} {p1 : Int32} {p2 : Int32} {p3 : Int32} (ht : τ.1 p0 = 2) (hs : st.length ≤ 4) : AW (d + 1) 153 57 [x0, x1, x2, x3] (.int p3 :: .int p2 :: .int p1 :: .ref p0 :: st) σ ρ g τ Q = AW d 15 0 [.ref p0, .int p1, .int p2, .int p3] [] σ ρ g τ (fun r9 σ ρ g τ => AW (d + 1) 153 60 [x0, x1, x2, x3] (r9.toList ++ st) σ ρ g τ Q) := aw_cv m153 d153_57 rfl m15 rfl rfl (by decide) en15 ok15 rfl ht hs
theorem d153_60 : decode cX11_sheet 60 = .ok (.iconst 1, 1) := by decide +kernel
theorem s153_60 {d : Nat} {st : List Value} {σ : am_I} {ρ : am_R} {g : am_J} {τ : am_T} {Q : am_Q} {x0 x1 x2 x3 : Value} : AW d 153 60 [x0, x1, x2, x3] (st) σ ρ g τ Q = AW d 153 61 [x0, x1, x2, x3] (.int 1 :: st) σ ρ g τ Q := aw_lc m153 d153_60 rfl rfl rfl
theorem d153_61 : decode cX11_sheet 61 = .ok (.ireturn, 1) := by decide +kernel
theorem s153_61 {d : Nat} {σ : am_I} {ρ : am_R} {g : am_J} {τ : am_T} {Q : am_Q} {x0 x1 x2 x3 : Value} {v : Int32} : AW d 153 61 [x0, x1, x2, x3] ([.int v]) σ ρ g τ Q = Q (some (.int v)) σ ρ g τ := aw_ri m153 d153_61 rfl
theorem d154_0 : decode cX11_put 0 = .ok (.iload_n 1, 1) := by decide +kernel
theorem s154_0 {d : Nat} {st : List Value} {σ : am_I} {ρ : am_R} {g : am_J} {τ : am_T} {Q : am_Q} {x0 x2 x3 x4 : Value} {v : Int32} : AW d 154 0 [x0, .int v, x2, x3, x4] (st) σ ρ g τ Q = AW d 154 1 [x0, .int v, x2, x3, x4] (.int v :: st) σ ρ g τ Q := aw_lc m154 d154_0 rfl rfl rfl
theorem d154_1 : decode cX11_put 1 = .ok (.invokestatic 132, 3) := by decide +kernel
theorem s154_1 {d : Nat} {st : List Value} {σ : am_I} {ρ : am_R} {g : am_J} {τ : am_T} {Q : am_Q} {x0 x1 x2 x3 x4 : Value} {p0 : Int32} (hs : st.length ≤ 4) : AW (d + 1) 154 1 [x0, x1, x2, x3, x4] (.int p0 :: st) σ ρ g τ Q = AW d 106 0 [.int p0] [] σ ρ g τ (fun r9 σ ρ g τ => AW (d + 1) 154 4 [x0, x1, x2, x3, x4] (r9.toList ++ st) σ ρ g τ Q) := aw_cs m154 d154_1 rfl (by simp only [List.length_cons]; omega) rfl rfl en106 ok106 rfl hs
theorem d154_4 : decode cX11_put 4 = .ok (.ifCond .ne 5, 3) := by decide +kernel
theorem s154_4 {d : Nat} {st : List Value} {σ : am_I} {ρ : am_R} {g : am_J} {τ : am_T} {Q : am_Q} {x0 x1 x2 x3 x4 : Value} {v : Int32} : AW d 154 4 [x0, x1, x2, x3, x4] (.int v :: st) σ ρ g τ Q = if ¬ v = 0 then AW d 154 9 [x0, x1, x2, x3, x4] (st) σ ρ g τ Q else AW d 154 7 [x0, x1, x2, x3, x4] (st) σ ρ g τ Q := aw_br m154 d154_4 rfl rfl rfl
theorem d154_7 : decode cX11_put 7 = .ok (.iconst (-1), 1) := by decide +kernel
theorem s154_7 {d : Nat} {st : List Value} {σ : am_I} {ρ : am_R} {g : am_J} {τ : am_T} {Q : am_Q} {x0 x1 x2 x3 x4 : Value} : AW d 154 7 [x0, x1, x2, x3, x4] (st) σ ρ g τ Q = AW d 154 8 [x0, x1, x2, x3, x4] (.int (-1) :: st) σ ρ g τ Q := aw_lc m154 d154_7 rfl rfl rfl
theorem d154_8 : decode cX11_put 8 = .ok (.ireturn, 1) := by decide +kernel
theorem s154_8 {d : Nat} {σ : am_I} {ρ : am_R} {g : am_J} {τ : am_T} {Q : am_Q} {x0 x1 x2 x3 x4 : Value} {v : Int32} : AW d 154 8 [x0, x1, x2, x3, x4] ([.int v]) σ ρ g τ Q = Q (some (.int v)) σ ρ g τ := aw_ri m154 d154_8 rfl
theorem d154_9 : decode cX11_put 9 = .ok (.aload_n 0, 1) := by decide +kernel
theorem s154_9 {d : Nat} {st : List Value} {σ : am_I} {ρ : am_R} {g : am_J} {τ : am_T} {Q : am_Q} {x1 x2 x3 x4 : Value} {v : Nat} : AW d 154 9 [.ref v, x1, x2, x3, x4] (st) σ ρ g τ Q = AW d 154 10 [.ref v, x1, x2, x3, x4] (.ref v :: st) σ ρ g τ Q := aw_lc m154 d154_9 rfl rfl rfl
theorem d154_10 : decode cX11_put 10 = .ok (.getfield 56, 3) := by decide +kernel
theorem s154_10 {d : Nat} {st : List Value} {σ : am_I} {ρ : am_R} {g : am_J} {τ : am_T} {Q : am_Q} {x0 x1 x2 x3 x4 : Value} {a : Nat} (ht : τ.1 a = 11) : AW d 154 10 [x0, x1, x2, x3, x4] (.ref a :: st) σ ρ g τ Q = AW d 154 13 [x0, x1, x2, x3, x4] (va_rf (ρ a 7) :: st) σ ρ g τ Q := aw_gr m154 d154_10 rfl rfl rfl ht
theorem d154_13 : decode cX11_put 13 = .ok (.iload_n 1, 1) := by decide +kernel
theorem s154_13 {d : Nat} {st : List Value} {σ : am_I} {ρ : am_R} {g : am_J} {τ : am_T} {Q : am_Q} {x0 x2 x3 x4 : Value} {v : Int32} : AW d 154 13 [x0, .int v, x2, x3, x4] (st) σ ρ g τ Q = AW d 154 14 [x0, .int v, x2, x3, x4] (.int v :: st) σ ρ g τ Q := aw_lc m154 d154_13 rfl rfl rfl
theorem d154_14 : decode cX11_put 14 = .ok (.aload_n 0, 1) := by decide +kernel
theorem s154_14 {d : Nat} {st : List Value} {σ : am_I} {ρ : am_R} {g : am_J} {τ : am_T} {Q : am_Q} {x1 x2 x3 x4 : Value} {v : Nat} : AW d 154 14 [.ref v, x1, x2, x3, x4] (st) σ ρ g τ Q = AW d 154 15 [.ref v, x1, x2, x3, x4] (.ref v :: st) σ ρ g τ Q := aw_lc m154 d154_14 rfl rfl rfl
theorem d154_15 : decode cX11_put 15 = .ok (.getfield 56, 3) := by decide +kernel
theorem s154_15 {d : Nat} {st : List Value} {σ : am_I} {ρ : am_R} {g : am_J} {τ : am_T} {Q : am_Q} {x0 x1 x2 x3 x4 : Value} {a : Nat} (ht : τ.1 a = 11) : AW d 154 15 [x0, x1, x2, x3, x4] (.ref a :: st) σ ρ g τ Q = AW d 154 18 [x0, x1, x2, x3, x4] (va_rf (ρ a 7) :: st) σ ρ g τ Q := aw_gr m154 d154_15 rfl rfl rfl ht
theorem d154_18 : decode cX11_put 18 = .ok (.getfield 411, 3) := by decide +kernel
theorem s154_18 {d : Nat} {st : List Value} {σ : am_I} {ρ : am_R} {g : am_J} {τ : am_T} {Q : am_Q} {x0 x1 x2 x3 x4 : Value} {a : Nat} (ht : τ.1 a = 2) : AW d 154 18 [x0, x1, x2, x3, x4] (.ref a :: st) σ ρ g τ Q = AW d 154 21 [x0, x1, x2, x3, x4] (va_rf (ρ a 0) :: st) σ ρ g τ Q := aw_gr m154 d154_18 rfl rfl rfl ht
theorem d154_21 : decode cX11_put 21 = .ok (.iload_n 1, 1) := by decide +kernel
theorem s154_21 {d : Nat} {st : List Value} {σ : am_I} {ρ : am_R} {g : am_J} {τ : am_T} {Q : am_Q} {x0 x2 x3 x4 : Value} {v : Int32} : AW d 154 21 [x0, .int v, x2, x3, x4] (st) σ ρ g τ Q = AW d 154 22 [x0, .int v, x2, x3, x4] (.int v :: st) σ ρ g τ Q := aw_lc m154 d154_21 rfl rfl rfl
theorem d154_22 : decode cX11_put 22 = .ok (.iaload, 1) := by decide +kernel
theorem s154_22 {d : Nat} {st : List Value} {σ : am_I} {ρ : am_R} {g : am_J} {τ : am_T} {Q : am_Q} {x0 x1 x2 x3 x4 : Value} {a : Nat} {j : Int32} (ht : τ.1 a = 15) (hj : am_inb j (τ.2.1 a) = true) : AW d 154 22 [x0, x1, x2, x3, x4] (.int j :: .ref a :: st) σ ρ g τ Q = AW d 154 23 [x0, x1, x2, x3, x4] (.int (σ a j.toNatClampNeg) :: st) σ ρ g τ Q := aw_ial m154 d154_22 rfl ht hj
theorem d154_23 : decode cX11_put 23 = .ok (.iload_n 2, 1) := by decide +kernel
theorem s154_23 {d : Nat} {st : List Value} {σ : am_I} {ρ : am_R} {g : am_J} {τ : am_T} {Q : am_Q} {x0 x1 x3 x4 : Value} {v : Int32} : AW d 154 23 [x0, x1, .int v, x3, x4] (st) σ ρ g τ Q = AW d 154 24 [x0, x1, .int v, x3, x4] (.int v :: st) σ ρ g τ Q := aw_lc m154 d154_23 rfl rfl rfl
theorem d154_24 : decode cX11_put 24 = .ok (.iconst 1, 1) := by decide +kernel
theorem s154_24 {d : Nat} {st : List Value} {σ : am_I} {ρ : am_R} {g : am_J} {τ : am_T} {Q : am_Q} {x0 x1 x2 x3 x4 : Value} : AW d 154 24 [x0, x1, x2, x3, x4] (st) σ ρ g τ Q = AW d 154 25 [x0, x1, x2, x3, x4] (.int 1 :: st) σ ρ g τ Q := aw_lc m154 d154_24 rfl rfl rfl
theorem d154_25 : decode cX11_put 25 = .ok (.invokevirtual 135, 3) := by decide +kernel
theorem s154_25 {d : Nat} {st : List Value} {σ : am_I} {ρ : am_R} {g : am_J} {τ : am_T} {Q : am_Q} {x0 x1 x2 x3 x4 : Value} {p0 : Nat} {p1 : Int32} {p2 : Int32} {p3 : Int32} {p4 : Int32} (ht : τ.1 p0 = 2) (hs : st.length ≤ 4) : AW (d + 1) 154 25 [x0, x1, x2, x3, x4] (.int p4 :: .int p3 :: .int p2 :: .int p1 :: .ref p0 :: st) σ ρ g τ Q = AW d 16 0 [.ref p0, .int p1, .int p2, .int p3, .int p4] [] σ ρ g τ (fun r9 σ ρ g τ => AW (d + 1) 154 28 [x0, x1, x2, x3, x4] (r9.toList ++ st) σ ρ g τ Q) := aw_cv m154 d154_25 rfl m16 rfl rfl (by decide) en16 ok16 rfl ht hs
theorem d154_28 : decode cX11_put 28 = .ok (.istore 4, 2) := by decide +kernel
theorem s154_28 {d : Nat} {st : List Value} {σ : am_I} {ρ : am_R} {g : am_J} {τ : am_T} {Q : am_Q} {x0 x1 x2 x4 : Value} {v : Int32} {u : Int32} : AW d 154 28 [x0, x1, x2, .int u, x4] (.int v :: st) σ ρ g τ Q = AW d 154 30 [x0, x1, x2, .int u, .int v] (st) σ ρ g τ Q := aw_lc m154 d154_28 rfl rfl rfl
theorem d154_30 : decode cX11_put 30 = .ok (.iload 4, 2) := by decide +kernel
theorem s154_30 {d : Nat} {st : List Value} {σ : am_I} {ρ : am_R} {g : am_J} {τ : am_T} {Q : am_Q} {x0 x1 x2 x3 : Value} {v : Int32} : AW d 154 30 [x0, x1, x2, x3, .int v] (st) σ ρ g τ Q = AW d 154 32 [x0, x1, x2, x3, .int v] (.int v :: st) σ ρ g τ Q := aw_lc m154 d154_30 rfl rfl rfl
theorem d154_32 : decode cX11_put 32 = .ok (.ifCond .eq 6, 3) := by decide +kernel
theorem s154_32 {d : Nat} {st : List Value} {σ : am_I} {ρ : am_R} {g : am_J} {τ : am_T} {Q : am_Q} {x0 x1 x2 x3 x4 : Value} {v : Int32} : AW d 154 32 [x0, x1, x2, x3, x4] (.int v :: st) σ ρ g τ Q = if v = 0 then AW d 154 38 [x0, x1, x2, x3, x4] (st) σ ρ g τ Q else AW d 154 35 [x0, x1, x2, x3, x4] (st) σ ρ g τ Q := aw_br m154 d154_32 rfl rfl rfl
theorem d154_35 : decode cX11_put 35 = .ok (.iload 4, 2) := by decide +kernel
theorem s154_35 {d : Nat} {st : List Value} {σ : am_I} {ρ : am_R} {g : am_J} {τ : am_T} {Q : am_Q} {x0 x1 x2 x3 : Value} {v : Int32} : AW d 154 35 [x0, x1, x2, x3, .int v] (st) σ ρ g τ Q = AW d 154 37 [x0, x1, x2, x3, .int v] (.int v :: st) σ ρ g τ Q := aw_lc m154 d154_35 rfl rfl rfl
theorem d154_37 : decode cX11_put 37 = .ok (.ireturn, 1) := by decide +kernel
theorem s154_37 {d : Nat} {σ : am_I} {ρ : am_R} {g : am_J} {τ : am_T} {Q : am_Q} {x0 x1 x2 x3 x4 : Value} {v : Int32} : AW d 154 37 [x0, x1, x2, x3, x4] ([.int v]) σ ρ g τ Q = Q (some (.int v)) σ ρ g τ := aw_ri m154 d154_37 rfl
theorem d154_38 : decode cX11_put 38 = .ok (.aload_n 0, 1) := by decide +kernel
theorem s154_38 {d : Nat} {st : List Value} {σ : am_I} {ρ : am_R} {g : am_J} {τ : am_T} {Q : am_Q} {x1 x2 x3 x4 : Value} {v : Nat} : AW d 154 38 [.ref v, x1, x2, x3, x4] (st) σ ρ g τ Q = AW d 154 39 [.ref v, x1, x2, x3, x4] (.ref v :: st) σ ρ g τ Q := aw_lc m154 d154_38 rfl rfl rfl
theorem d154_39 : decode cX11_put 39 = .ok (.getfield 56, 3) := by decide +kernel
theorem s154_39 {d : Nat} {st : List Value} {σ : am_I} {ρ : am_R} {g : am_J} {τ : am_T} {Q : am_Q} {x0 x1 x2 x3 x4 : Value} {a : Nat} (ht : τ.1 a = 11) : AW d 154 39 [x0, x1, x2, x3, x4] (.ref a :: st) σ ρ g τ Q = AW d 154 42 [x0, x1, x2, x3, x4] (va_rf (ρ a 7) :: st) σ ρ g τ Q := aw_gr m154 d154_39 rfl rfl rfl ht
theorem d154_42 : decode cX11_put 42 = .ok (.getfield 414, 3) := by decide +kernel
theorem s154_42 {d : Nat} {st : List Value} {σ : am_I} {ρ : am_R} {g : am_J} {τ : am_T} {Q : am_Q} {x0 x1 x2 x3 x4 : Value} {a : Nat} (ht : τ.1 a = 2) : AW d 154 42 [x0, x1, x2, x3, x4] (.ref a :: st) σ ρ g τ Q = AW d 154 45 [x0, x1, x2, x3, x4] (va_rf (ρ a 2) :: st) σ ρ g τ Q := aw_gr m154 d154_42 rfl rfl rfl ht
theorem d154_45 : decode cX11_put 45 = .ok (.iload_n 1, 1) := by decide +kernel
theorem s154_45 {d : Nat} {st : List Value} {σ : am_I} {ρ : am_R} {g : am_J} {τ : am_T} {Q : am_Q} {x0 x2 x3 x4 : Value} {v : Int32} : AW d 154 45 [x0, .int v, x2, x3, x4] (st) σ ρ g τ Q = AW d 154 46 [x0, .int v, x2, x3, x4] (.int v :: st) σ ρ g τ Q := aw_lc m154 d154_45 rfl rfl rfl
theorem d154_46 : decode cX11_put 46 = .ok (.aaload, 1) := by decide +kernel
theorem s154_46 {d : Nat} {st : List Value} {σ : am_I} {ρ : am_R} {g : am_J} {τ : am_T} {Q : am_Q} {x0 x1 x2 x3 x4 : Value} {a : Nat} {j : Int32} (ht : 18 ≤ τ.1 a ∧ τ.1 a ≤ 22) (hj : am_inb j (τ.2.1 a) = true) : AW d 154 46 [x0, x1, x2, x3, x4] (.int j :: .ref a :: st) σ ρ g τ Q = AW d 154 47 [x0, x1, x2, x3, x4] (va_rf (ρ a j.toNatClampNeg) :: st) σ ρ g τ Q := aw_aal m154 d154_46 rfl ht hj
theorem d154_47 : decode cX11_put 47 = .ok (.iload_n 2, 1) := by decide +kernel
theorem s154_47 {d : Nat} {st : List Value} {σ : am_I} {ρ : am_R} {g : am_J} {τ : am_T} {Q : am_Q} {x0 x1 x3 x4 : Value} {v : Int32} : AW d 154 47 [x0, x1, .int v, x3, x4] (st) σ ρ g τ Q = AW d 154 48 [x0, x1, .int v, x3, x4] (.int v :: st) σ ρ g τ Q := aw_lc m154 d154_47 rfl rfl rfl
theorem d154_48 : decode cX11_put 48 = .ok (.iload_n 3, 1) := by decide +kernel
theorem s154_48 {d : Nat} {st : List Value} {σ : am_I} {ρ : am_R} {g : am_J} {τ : am_T} {Q : am_Q} {x0 x1 x2 x4 : Value} {v : Int32} : AW d 154 48 [x0, x1, x2, .int v, x4] (st) σ ρ g τ Q = AW d 154 49 [x0, x1, x2, .int v, x4] (.int v :: st) σ ρ g τ Q := aw_lc m154 d154_48 rfl rfl rfl
theorem d154_49 : decode cX11_put 49 = .ok (.aload_n 0, 1) := by decide +kernel
theorem s154_49 {d : Nat} {st : List Value} {σ : am_I} {ρ : am_R} {g : am_J} {τ : am_T} {Q : am_Q} {x1 x2 x3 x4 : Value} {v : Nat} : AW d 154 49 [.ref v, x1, x2, x3, x4] (st) σ ρ g τ Q = AW d 154 50 [.ref v, x1, x2, x3, x4] (.ref v :: st) σ ρ g τ Q := aw_lc m154 d154_49 rfl rfl rfl
theorem d154_50 : decode cX11_put 50 = .ok (.getfield 56, 3) := by decide +kernel
theorem s154_50 {d : Nat} {st : List Value} {σ : am_I} {ρ : am_R} {g : am_J} {τ : am_T} {Q : am_Q} {x0 x1 x2 x3 x4 : Value} {a : Nat} (ht : τ.1 a = 11) : AW d 154 50 [x0, x1, x2, x3, x4] (.ref a :: st) σ ρ g τ Q = AW d 154 53 [x0, x1, x2, x3, x4] (va_rf (ρ a 7) :: st) σ ρ g τ Q := aw_gr m154 d154_50 rfl rfl rfl ht
theorem d154_53 : decode cX11_put 53 = .ok (.getfield 411, 3) := by decide +kernel
theorem s154_53 {d : Nat} {st : List Value} {σ : am_I} {ρ : am_R} {g : am_J} {τ : am_T} {Q : am_Q} {x0 x1 x2 x3 x4 : Value} {a : Nat} (ht : τ.1 a = 2) : AW d 154 53 [x0, x1, x2, x3, x4] (.ref a :: st) σ ρ g τ Q = AW d 154 56 [x0, x1, x2, x3, x4] (va_rf (ρ a 0) :: st) σ ρ g τ Q := aw_gr m154 d154_53 rfl rfl rfl ht
theorem d154_56 : decode cX11_put 56 = .ok (.iload_n 1, 1) := by decide +kernel
theorem s154_56 {d : Nat} {st : List Value} {σ : am_I} {ρ : am_R} {g : am_J} {τ : am_T} {Q : am_Q} {x0 x2 x3 x4 : Value} {v : Int32} : AW d 154 56 [x0, .int v, x2, x3, x4] (st) σ ρ g τ Q = AW d 154 57 [x0, .int v, x2, x3, x4] (.int v :: st) σ ρ g τ Q := aw_lc m154 d154_56 rfl rfl rfl
theorem d154_57 : decode cX11_put 57 = .ok (.iaload, 1) := by decide +kernel
theorem s154_57 {d : Nat} {st : List Value} {σ : am_I} {ρ : am_R} {g : am_J} {τ : am_T} {Q : am_Q} {x0 x1 x2 x3 x4 : Value} {a : Nat} {j : Int32} (ht : τ.1 a = 15) (hj : am_inb j (τ.2.1 a) = true) : AW d 154 57 [x0, x1, x2, x3, x4] (.int j :: .ref a :: st) σ ρ g τ Q = AW d 154 58 [x0, x1, x2, x3, x4] (.int (σ a j.toNatClampNeg) :: st) σ ρ g τ Q := aw_ial m154 d154_57 rfl ht hj
theorem d154_58 : decode cX11_put 58 = .ok (.invokestatic 418, 3) := by decide +kernel
theorem s154_58 {d : Nat} {st : List Value} {σ : am_I} {ρ : am_R} {g : am_J} {τ : am_T} {Q : am_Q} {x0 x1 x2 x3 x4 : Value} {p0 : Int32} {p1 : Int32} (hs : st.length ≤ 4) : AW (d + 1) 154 58 [x0, x1, x2, x3, x4] (.int p1 :: .int p0 :: st) σ ρ g τ Q = AW d 18 0 [.int p0, .int p1] [] σ ρ g τ (fun r9 σ ρ g τ => AW (d + 1) 154 61 [x0, x1, x2, x3, x4] (r9.toList ++ st) σ ρ g τ Q) := aw_cs m154 d154_58 rfl (by simp only [List.length_cons]; omega) rfl rfl en18 ok18 rfl hs
theorem d154_61 : decode cX11_put 61 = .ok (.iastore, 1) := by decide +kernel
theorem s154_61 {d : Nat} {st : List Value} {σ : am_I} {ρ : am_R} {g : am_J} {τ : am_T} {Q : am_Q} {x0 x1 x2 x3 x4 : Value} {a : Nat} {j v : Int32} (ht : τ.1 a = 15) (ha : a < am_BG) (hj : am_inb j (τ.2.1 a) = true) : AW d 154 61 [x0, x1, x2, x3, x4] (.int v :: .int j :: .ref a :: st) σ ρ g τ Q = AW d 154 62 [x0, x1, x2, x3, x4] (st) (am_u σ a j.toNatClampNeg v) ρ g τ Q := aw_ias m154 d154_61 rfl ht ha hj
theorem d154_62 : decode cX11_put 62 = .ok (.iconst 1, 1) := by decide +kernel
theorem s154_62 {d : Nat} {st : List Value} {σ : am_I} {ρ : am_R} {g : am_J} {τ : am_T} {Q : am_Q} {x0 x1 x2 x3 x4 : Value} : AW d 154 62 [x0, x1, x2, x3, x4] (st) σ ρ g τ Q = AW d 154 63 [x0, x1, x2, x3, x4] (.int 1 :: st) σ ρ g τ Q := aw_lc m154 d154_62 rfl rfl rfl
theorem d154_63 : decode cX11_put 63 = .ok (.ireturn, 1) := by decide +kernel
theorem s154_63 {d : Nat} {σ : am_I} {ρ : am_R} {g : am_J} {τ : am_T} {Q : am_Q} {x0 x1 x2 x3 x4 : Value} {v : Int32} : AW d 154 63 [x0, x1, x2, x3, x4] ([.int v]) σ ρ g τ Q = Q (some (.int v)) σ ρ g τ := aw_ri m154 d154_63 rfl
theorem d155_0 : decode cX11_item 0 = .ok (.iload_n 1, 1) := by decide +kernel
theorem s155_0 {d : Nat} {st : List Value} {σ : am_I} {ρ : am_R} {g : am_J} {τ : am_T} {Q : am_Q} {x0 x2 x3 x4 : Value} {v : Int32} : AW d 155 0 [x0, .int v, x2, x3, x4] (st) σ ρ g τ Q = AW d 155 1 [x0, .int v, x2, x3, x4] (.int v :: st) σ ρ g τ Q := aw_lc m155 d155_0 rfl rfl rfl
theorem d155_1 : decode cX11_item 1 = .ok (.invokestatic 132, 3) := by decide +kernel
theorem s155_1 {d : Nat} {st : List Value} {σ : am_I} {ρ : am_R} {g : am_J} {τ : am_T} {Q : am_Q} {x0 x1 x2 x3 x4 : Value} {p0 : Int32} (hs : st.length ≤ 4) : AW (d + 1) 155 1 [x0, x1, x2, x3, x4] (.int p0 :: st) σ ρ g τ Q = AW d 106 0 [.int p0] [] σ ρ g τ (fun r9 σ ρ g τ => AW (d + 1) 155 4 [x0, x1, x2, x3, x4] (r9.toList ++ st) σ ρ g τ Q) := aw_cs m155 d155_1 rfl (by simp only [List.length_cons]; omega) rfl rfl en106 ok106 rfl hs
theorem d155_4 : decode cX11_item 4 = .ok (.ifCond .eq 12, 3) := by decide +kernel
theorem s155_4 {d : Nat} {st : List Value} {σ : am_I} {ρ : am_R} {g : am_J} {τ : am_T} {Q : am_Q} {x0 x1 x2 x3 x4 : Value} {v : Int32} : AW d 155 4 [x0, x1, x2, x3, x4] (.int v :: st) σ ρ g τ Q = if v = 0 then AW d 155 16 [x0, x1, x2, x3, x4] (st) σ ρ g τ Q else AW d 155 7 [x0, x1, x2, x3, x4] (st) σ ρ g τ Q := aw_br m155 d155_4 rfl rfl rfl
theorem d155_7 : decode cX11_item 7 = .ok (.iload_n 2, 1) := by decide +kernel
theorem s155_7 {d : Nat} {st : List Value} {σ : am_I} {ρ : am_R} {g : am_J} {τ : am_T} {Q : am_Q} {x0 x1 x3 x4 : Value} {v : Int32} : AW d 155 7 [x0, x1, .int v, x3, x4] (st) σ ρ g τ Q = AW d 155 8 [x0, x1, .int v, x3, x4] (.int v :: st) σ ρ g τ Q := aw_lc m155 d155_7 rfl rfl rfl
theorem d155_8 : decode cX11_item 8 = .ok (.iconst 0, 1) := by decide +kernel
theorem s155_8 {d : Nat} {st : List Value} {σ : am_I} {ρ : am_R} {g : am_J} {τ : am_T} {Q : am_Q} {x0 x1 x2 x3 x4 : Value} : AW d 155 8 [x0, x1, x2, x3, x4] (st) σ ρ g τ Q = AW d 155 9 [x0, x1, x2, x3, x4] (.int 0 :: st) σ ρ g τ Q := aw_lc m155 d155_8 rfl rfl rfl
theorem d155_9 : decode cX11_item 9 = .ok (.iconst 4, 1) := by decide +kernel
theorem s155_9 {d : Nat} {st : List Value} {σ : am_I} {ρ : am_R} {g : am_J} {τ : am_T} {Q : am_Q} {x0 x1 x2 x3 x4 : Value} : AW d 155 9 [x0, x1, x2, x3, x4] (st) σ ρ g τ Q = AW d 155 10 [x0, x1, x2, x3, x4] (.int 4 :: st) σ ρ g τ Q := aw_lc m155 d155_9 rfl rfl rfl
theorem d155_10 : decode cX11_item 10 = .ok (.invokestatic 74, 3) := by decide +kernel
theorem s155_10 {d : Nat} {st : List Value} {σ : am_I} {ρ : am_R} {g : am_J} {τ : am_T} {Q : am_Q} {x0 x1 x2 x3 x4 : Value} {p0 : Int32} {p1 : Int32} {p2 : Int32} (hs : st.length ≤ 4) : AW (d + 1) 155 10 [x0, x1, x2, x3, x4] (.int p2 :: .int p1 :: .int p0 :: st) σ ρ g τ Q = AW d 100 0 [.int p0, .int p1, .int p2] [] σ ρ g τ (fun r9 σ ρ g τ => AW (d + 1) 155 13 [x0, x1, x2, x3, x4] (r9.toList ++ st) σ ρ g τ Q) := aw_cs m155 d155_10 rfl (by simp only [List.length_cons]; omega) rfl rfl en100 ok100 rfl hs
theorem d155_13 : decode cX11_item 13 = .ok (.ifCond .ne 5, 3) := by decide +kernel
theorem s155_13 {d : Nat} {st : List Value} {σ : am_I} {ρ : am_R} {g : am_J} {τ : am_T} {Q : am_Q} {x0 x1 x2 x3 x4 : Value} {v : Int32} : AW d 155 13 [x0, x1, x2, x3, x4] (.int v :: st) σ ρ g τ Q = if ¬ v = 0 then AW d 155 18 [x0, x1, x2, x3, x4] (st) σ ρ g τ Q else AW d 155 16 [x0, x1, x2, x3, x4] (st) σ ρ g τ Q := aw_br m155 d155_13 rfl rfl rfl
theorem d155_16 : decode cX11_item 16 = .ok (.iconst (-1), 1) := by decide +kernel
theorem s155_16 {d : Nat} {st : List Value} {σ : am_I} {ρ : am_R} {g : am_J} {τ : am_T} {Q : am_Q} {x0 x1 x2 x3 x4 : Value} : AW d 155 16 [x0, x1, x2, x3, x4] (st) σ ρ g τ Q = AW d 155 17 [x0, x1, x2, x3, x4] (.int (-1) :: st) σ ρ g τ Q := aw_lc m155 d155_16 rfl rfl rfl
theorem d155_17 : decode cX11_item 17 = .ok (.ireturn, 1) := by decide +kernel
theorem s155_17 {d : Nat} {σ : am_I} {ρ : am_R} {g : am_J} {τ : am_T} {Q : am_Q} {x0 x1 x2 x3 x4 : Value} {v : Int32} : AW d 155 17 [x0, x1, x2, x3, x4] ([.int v]) σ ρ g τ Q = Q (some (.int v)) σ ρ g τ := aw_ri m155 d155_17 rfl
theorem d155_18 : decode cX11_item 18 = .ok (.aload_n 0, 1) := by decide +kernel
theorem s155_18 {d : Nat} {st : List Value} {σ : am_I} {ρ : am_R} {g : am_J} {τ : am_T} {Q : am_Q} {x1 x2 x3 x4 : Value} {v : Nat} : AW d 155 18 [.ref v, x1, x2, x3, x4] (st) σ ρ g τ Q = AW d 155 19 [.ref v, x1, x2, x3, x4] (.ref v :: st) σ ρ g τ Q := aw_lc m155 d155_18 rfl rfl rfl
theorem d155_19 : decode cX11_item 19 = .ok (.getfield 56, 3) := by decide +kernel
theorem s155_19 {d : Nat} {st : List Value} {σ : am_I} {ρ : am_R} {g : am_J} {τ : am_T} {Q : am_Q} {x0 x1 x2 x3 x4 : Value} {a : Nat} (ht : τ.1 a = 11) : AW d 155 19 [x0, x1, x2, x3, x4] (.ref a :: st) σ ρ g τ Q = AW d 155 22 [x0, x1, x2, x3, x4] (va_rf (ρ a 7) :: st) σ ρ g τ Q := aw_gr m155 d155_19 rfl rfl rfl ht
theorem d155_22 : decode cX11_item 22 = .ok (.iload_n 1, 1) := by decide +kernel
theorem s155_22 {d : Nat} {st : List Value} {σ : am_I} {ρ : am_R} {g : am_J} {τ : am_T} {Q : am_Q} {x0 x2 x3 x4 : Value} {v : Int32} : AW d 155 22 [x0, .int v, x2, x3, x4] (st) σ ρ g τ Q = AW d 155 23 [x0, .int v, x2, x3, x4] (.int v :: st) σ ρ g τ Q := aw_lc m155 d155_22 rfl rfl rfl
theorem d155_23 : decode cX11_item 23 = .ok (.iload_n 2, 1) := by decide +kernel
theorem s155_23 {d : Nat} {st : List Value} {σ : am_I} {ρ : am_R} {g : am_J} {τ : am_T} {Q : am_Q} {x0 x1 x3 x4 : Value} {v : Int32} : AW d 155 23 [x0, x1, .int v, x3, x4] (st) σ ρ g τ Q = AW d 155 24 [x0, x1, .int v, x3, x4] (.int v :: st) σ ρ g τ Q := aw_lc m155 d155_23 rfl rfl rfl
theorem d155_24 : decode cX11_item 24 = .ok (.iload_n 3, 1) := by decide +kernel
theorem s155_24 {d : Nat} {st : List Value} {σ : am_I} {ρ : am_R} {g : am_J} {τ : am_T} {Q : am_Q} {x0 x1 x2 x4 : Value} {v : Int32} : AW d 155 24 [x0, x1, x2, .int v, x4] (st) σ ρ g τ Q = AW d 155 25 [x0, x1, x2, .int v, x4] (.int v :: st) σ ρ g τ Q := aw_lc m155 d155_24 rfl rfl rfl
theorem d155_25 : decode cX11_item 25 = .ok (.iconst 1, 1) := by decide +kernel
theorem s155_25 {d : Nat} {st : List Value} {σ : am_I} {ρ : am_R} {g : am_J} {τ : am_T} {Q : am_Q} {x0 x1 x2 x3 x4 : Value} : AW d 155 25 [x0, x1, x2, x3, x4] (st) σ ρ g τ Q = AW d 155 26 [x0, x1, x2, x3, x4] (.int 1 :: st) σ ρ g τ Q := aw_lc m155 d155_25 rfl rfl rfl
theorem d155_26 : decode cX11_item 26 = .ok (.invokevirtual 135, 3) := by decide +kernel
theorem s155_26 {d : Nat} {st : List Value} {σ : am_I} {ρ : am_R} {g : am_J} {τ : am_T} {Q : am_Q} {x0 x1 x2 x3 x4 : Value} {p0 : Nat} {p1 : Int32} {p2 : Int32} {p3 : Int32} {p4 : Int32} (ht : τ.1 p0 = 2) (hs : st.length ≤ 4) : AW (d + 1) 155 26 [x0, x1, x2, x3, x4] (.int p4 :: .int p3 :: .int p2 :: .int p1 :: .ref p0 :: st) σ ρ g τ Q = AW d 16 0 [.ref p0, .int p1, .int p2, .int p3, .int p4] [] σ ρ g τ (fun r9 σ ρ g τ => AW (d + 1) 155 29 [x0, x1, x2, x3, x4] (r9.toList ++ st) σ ρ g τ Q) := aw_cv m155 d155_26 rfl m16 rfl rfl (by decide) en16 ok16 rfl ht hs
theorem d155_29 : decode cX11_item 29 = .ok (.istore 4, 2) := by decide +kernel
theorem s155_29 {d : Nat} {st : List Value} {σ : am_I} {ρ : am_R} {g : am_J} {τ : am_T} {Q : am_Q} {x0 x1 x2 x4 : Value} {v : Int32} {u : Int32} : AW d 155 29 [x0, x1, x2, .int u, x4] (.int v :: st) σ ρ g τ Q = AW d 155 31 [x0, x1, x2, .int u, .int v] (st) σ ρ g τ Q := aw_lc m155 d155_29 rfl rfl rfl
theorem d155_31 : decode cX11_item 31 = .ok (.iload 4, 2) := by decide +kernel
theorem s155_31 {d : Nat} {st : List Value} {σ : am_I} {ρ : am_R} {g : am_J} {τ : am_T} {Q : am_Q} {x0 x1 x2 x3 : Value} {v : Int32} : AW d 155 31 [x0, x1, x2, x3, .int v] (st) σ ρ g τ Q = AW d 155 33 [x0, x1, x2, x3, .int v] (.int v :: st) σ ρ g τ Q := aw_lc m155 d155_31 rfl rfl rfl
theorem d155_33 : decode cX11_item 33 = .ok (.ifCond .eq 8, 3) := by decide +kernel
theorem s155_33 {d : Nat} {st : List Value} {σ : am_I} {ρ : am_R} {g : am_J} {τ : am_T} {Q : am_Q} {x0 x1 x2 x3 x4 : Value} {v : Int32} : AW d 155 33 [x0, x1, x2, x3, x4] (.int v :: st) σ ρ g τ Q = if v = 0 then AW d 155 41 [x0, x1, x2, x3, x4] (st) σ ρ g τ Q else AW d 155 36 [x0, x1, x2, x3, x4] (st) σ ρ g τ Q := aw_br m155 d155_33 rfl rfl rfl
theorem d155_36 : decode cX11_item 36 = .ok (.iload 4, 2) := by decide +kernel
theorem s155_36 {d : Nat} {st : List Value} {σ : am_I} {ρ : am_R} {g : am_J} {τ : am_T} {Q : am_Q} {x0 x1 x2 x3 : Value} {v : Int32} : AW d 155 36 [x0, x1, x2, x3, .int v] (st) σ ρ g τ Q = AW d 155 38 [x0, x1, x2, x3, .int v] (.int v :: st) σ ρ g τ Q := aw_lc m155 d155_36 rfl rfl rfl
theorem d155_38 : decode cX11_item 38 = .ok (.goto 12, 3) := by decide +kernel
theorem s155_38 {d : Nat} {st : List Value} {σ : am_I} {ρ : am_R} {g : am_J} {τ : am_T} {Q : am_Q} {x0 x1 x2 x3 x4 : Value} : AW d 155 38 [x0, x1, x2, x3, x4] (st) σ ρ g τ Q = AW d 155 50 [x0, x1, x2, x3, x4] (st) σ ρ g τ Q := aw_lc m155 d155_38 rfl rfl rfl
theorem d155_41 : decode cX11_item 41 = .ok (.aload_n 0, 1) := by decide +kernel
theorem s155_41 {d : Nat} {st : List Value} {σ : am_I} {ρ : am_R} {g : am_J} {τ : am_T} {Q : am_Q} {x1 x2 x3 x4 : Value} {v : Nat} : AW d 155 41 [.ref v, x1, x2, x3, x4] (st) σ ρ g τ Q = AW d 155 42 [.ref v, x1, x2, x3, x4] (.ref v :: st) σ ρ g τ Q := aw_lc m155 d155_41 rfl rfl rfl
theorem d155_42 : decode cX11_item 42 = .ok (.getfield 56, 3) := by decide +kernel
theorem s155_42 {d : Nat} {st : List Value} {σ : am_I} {ρ : am_R} {g : am_J} {τ : am_T} {Q : am_Q} {x0 x1 x2 x3 x4 : Value} {a : Nat} (ht : τ.1 a = 11) : AW d 155 42 [x0, x1, x2, x3, x4] (.ref a :: st) σ ρ g τ Q = AW d 155 45 [x0, x1, x2, x3, x4] (va_rf (ρ a 7) :: st) σ ρ g τ Q := aw_gr m155 d155_42 rfl rfl rfl ht
theorem d155_45 : decode cX11_item 45 = .ok (.iload_n 1, 1) := by decide +kernel
theorem s155_45 {d : Nat} {st : List Value} {σ : am_I} {ρ : am_R} {g : am_J} {τ : am_T} {Q : am_Q} {x0 x2 x3 x4 : Value} {v : Int32} : AW d 155 45 [x0, .int v, x2, x3, x4] (st) σ ρ g τ Q = AW d 155 46 [x0, .int v, x2, x3, x4] (.int v :: st) σ ρ g τ Q := aw_lc m155 d155_45 rfl rfl rfl
theorem d155_46 : decode cX11_item 46 = .ok (.iload_n 3, 1) := by decide +kernel
theorem s155_46 {d : Nat} {st : List Value} {σ : am_I} {ρ : am_R} {g : am_J} {τ : am_T} {Q : am_Q} {x0 x1 x2 x4 : Value} {v : Int32} : AW d 155 46 [x0, x1, x2, .int v, x4] (st) σ ρ g τ Q = AW d 155 47 [x0, x1, x2, .int v, x4] (.int v :: st) σ ρ g τ Q := aw_lc m155 d155_46 rfl rfl rfl
theorem d155_47 : decode cX11_item 47 = .ok (.invokevirtual 139, 3) := by decide +kernel
theorem s155_47 {d : Nat} {st : List Value} {σ : am_I} {ρ : am_R} {g : am_J} {τ : am_T} {Q : am_Q} {x0 x1 x2 x3 x4 : Value} {p0 : Nat} {p1 : Int32} {p2 : Int32} (ht : τ.1 p0 = 2) (hs : st.length ≤ 4) : AW (d + 1) 155 47 [x0, x1, x2, x3, x4] (.int p2 :: .int p1 :: .ref p0 :: st) σ ρ g τ Q = AW d 17 0 [.ref p0, .int p1, .int p2] [] σ ρ g τ (fun r9 σ ρ g τ => AW (d + 1) 155 50 [x0, x1, x2, x3, x4] (r9.toList ++ st) σ ρ g τ Q) := aw_cv m155 d155_47 rfl m17 rfl rfl (by decide) en17 ok17 rfl ht hs
theorem d155_50 : decode cX11_item 50 = .ok (.ireturn, 1) := by decide +kernel
theorem s155_50 {d : Nat} {σ : am_I} {ρ : am_R} {g : am_J} {τ : am_T} {Q : am_Q} {x0 x1 x2 x3 x4 : Value} {v : Int32} : AW d 155 50 [x0, x1, x2, x3, x4] ([.int v]) σ ρ g τ Q = Q (some (.int v)) σ ρ g τ := aw_ri m155 d155_50 rfl
theorem d156_0 : decode cX11_shelf 0 = .ok (.iload_n 1, 1) := by decide +kernel
theorem s156_0 {d : Nat} {st : List Value} {σ : am_I} {ρ : am_R} {g : am_J} {τ : am_T} {Q : am_Q} {x0 x2 x3 : Value} {v : Int32} : AW d 156 0 [x0, .int v, x2, x3] (st) σ ρ g τ Q = AW d 156 1 [x0, .int v, x2, x3] (.int v :: st) σ ρ g τ Q := aw_lc m156 d156_0 rfl rfl rfl
theorem d156_1 : decode cX11_shelf 1 = .ok (.invokestatic 421, 3) := by decide +kernel
theorem s156_1 {d : Nat} {st : List Value} {σ : am_I} {ρ : am_R} {g : am_J} {τ : am_T} {Q : am_Q} {x0 x1 x2 x3 : Value} {p0 : Int32} (hs : st.length ≤ 4) : AW (d + 1) 156 1 [x0, x1, x2, x3] (.int p0 :: st) σ ρ g τ Q = AW d 107 0 [.int p0] [] σ ρ g τ (fun r9 σ ρ g τ => AW (d + 1) 156 4 [x0, x1, x2, x3] (r9.toList ++ st) σ ρ g τ Q) := aw_cs m156 d156_1 rfl (by simp only [List.length_cons]; omega) rfl rfl en107 ok107 rfl hs
theorem d156_4 : decode cX11_shelf 4 = .ok (.ifCond .ne 5, 3) := by decide +kernel
theorem s156_4 {d : Nat} {st : List Value} {σ : am_I} {ρ : am_R} {g : am_J} {τ : am_T} {Q : am_Q} {x0 x1 x2 x3 : Value} {v : Int32} : AW d 156 4 [x0, x1, x2, x3] (.int v :: st) σ ρ g τ Q = if ¬ v = 0 then AW d 156 9 [x0, x1, x2, x3] (st) σ ρ g τ Q else AW d 156 7 [x0, x1, x2, x3] (st) σ ρ g τ Q := aw_br m156 d156_4 rfl rfl rfl
theorem d156_7 : decode cX11_shelf 7 = .ok (.iconst (-1), 1) := by decide +kernel
theorem s156_7 {d : Nat} {st : List Value} {σ : am_I} {ρ : am_R} {g : am_J} {τ : am_T} {Q : am_Q} {x0 x1 x2 x3 : Value} : AW d 156 7 [x0, x1, x2, x3] (st) σ ρ g τ Q = AW d 156 8 [x0, x1, x2, x3] (.int (-1) :: st) σ ρ g τ Q := aw_lc m156 d156_7 rfl rfl rfl
theorem d156_8 : decode cX11_shelf 8 = .ok (.ireturn, 1) := by decide +kernel
theorem s156_8 {d : Nat} {σ : am_I} {ρ : am_R} {g : am_J} {τ : am_T} {Q : am_Q} {x0 x1 x2 x3 : Value} {v : Int32} : AW d 156 8 [x0, x1, x2, x3] ([.int v]) σ ρ g τ Q = Q (some (.int v)) σ ρ g τ := aw_ri m156 d156_8 rfl
theorem d156_9 : decode cX11_shelf 9 = .ok (.iload_n 2, 1) := by decide +kernel
theorem s156_9 {d : Nat} {st : List Value} {σ : am_I} {ρ : am_R} {g : am_J} {τ : am_T} {Q : am_Q} {x0 x1 x3 : Value} {v : Int32} : AW d 156 9 [x0, x1, .int v, x3] (st) σ ρ g τ Q = AW d 156 10 [x0, x1, .int v, x3] (.int v :: st) σ ρ g τ Q := aw_lc m156 d156_9 rfl rfl rfl
theorem d156_10 : decode cX11_shelf 10 = .ok (.tableswitch 117 0 3 #[30, 56, 85, 106], 30) := by decide +kernel
theorem s156_10_0 {d : Nat} {st : List Value} {σ : am_I} {ρ : am_R} {g : am_J} {τ : am_T} {Q : am_Q} {x0 x1 x2 x3 : Value} : AW d 156 10 [x0, x1, x2, x3] (.int 0 :: st) σ ρ g τ Q = AW d 156 40 [x0, x1, x2, x3] (st) σ ρ g τ Q := aw_lc m156 d156_10 rfl rfl rfl
theorem s156_10_1 {d : Nat} {st : List Value} {σ : am_I} {ρ : am_R} {g : am_J} {τ : am_T} {Q : am_Q} {x0 x1 x2 x3 : Value} : AW d 156 10 [x0, x1, x2, x3] (.int 1 :: st) σ ρ g τ Q = AW d 156 66 [x0, x1, x2, x3] (st) σ ρ g τ Q := aw_lc m156 d156_10 rfl rfl rfl
theorem s156_10_2 {d : Nat} {st : List Value} {σ : am_I} {ρ : am_R} {g : am_J} {τ : am_T} {Q : am_Q} {x0 x1 x2 x3 : Value} : AW d 156 10 [x0, x1, x2, x3] (.int 2 :: st) σ ρ g τ Q = AW d 156 95 [x0, x1, x2, x3] (st) σ ρ g τ Q := aw_lc m156 d156_10 rfl rfl rfl
theorem s156_10_3 {d : Nat} {st : List Value} {σ : am_I} {ρ : am_R} {g : am_J} {τ : am_T} {Q : am_Q} {x0 x1 x2 x3 : Value} : AW d 156 10 [x0, x1, x2, x3] (.int 3 :: st) σ ρ g τ Q = AW d 156 116 [x0, x1, x2, x3] (st) σ ρ g τ Q := aw_lc m156 d156_10 rfl rfl rfl
theorem s156_10_d {d : Nat} {st : List Value} {σ : am_I} {ρ : am_R} {g : am_J} {τ : am_T} {Q : am_Q} {x0 x1 x2 x3 : Value} {v : Int32} (h : v.toInt < 0 ∨ 3 < v.toInt) : AW d 156 10 [x0, x1, x2, x3] (.int v :: st) σ ρ g τ Q = AW d 156 127 [x0, x1, x2, x3] (st) σ ρ g τ Q := aw_lc m156 d156_10 rfl rfl (by simp only [am_lc]; rw [if_pos h]; rfl)
theorem d156_40 : decode cX11_shelf 40 = .ok (.aload_n 0, 1) := by decide +kernel
theorem s156_40 {d : Nat} {st : List Value} {σ : am_I} {ρ : am_R} {g : am_J} {τ : am_T} {Q : am_Q} {x1 x2 x3 : Value} {v : Nat} : AW d 156 40 [.ref v, x1, x2, x3] (st) σ ρ g τ Q = AW d 156 41 [.ref v, x1, x2, x3] (.ref v :: st) σ ρ g τ Q := aw_lc m156 d156_40 rfl rfl rfl
theorem d156_41 : decode cX11_shelf 41 = .ok (.getfield 10, 3) := by decide +kernel
theorem s156_41 {d : Nat} {st : List Value} {σ : am_I} {ρ : am_R} {g : am_J} {τ : am_T} {Q : am_Q} {x0 x1 x2 x3 : Value} {a : Nat} (ht : τ.1 a = 11) : AW d 156 41 [x0, x1, x2, x3] (.ref a :: st) σ ρ g τ Q = AW d 156 44 [x0, x1, x2, x3] (va_rf (ρ a 0) :: st) σ ρ g τ Q := aw_gr m156 d156_41 rfl rfl rfl ht
theorem d156_44 : decode cX11_shelf 44 = .ok (.iload_n 3, 1) := by decide +kernel
theorem s156_44 {d : Nat} {st : List Value} {σ : am_I} {ρ : am_R} {g : am_J} {τ : am_T} {Q : am_Q} {x0 x1 x2 : Value} {v : Int32} : AW d 156 44 [x0, x1, x2, .int v] (st) σ ρ g τ Q = AW d 156 45 [x0, x1, x2, .int v] (.int v :: st) σ ρ g τ Q := aw_lc m156 d156_44 rfl rfl rfl
theorem d156_45 : decode cX11_shelf 45 = .ok (.invokevirtual 206, 3) := by decide +kernel
theorem s156_45 {d : Nat} {st : List Value} {σ : am_I} {ρ : am_R} {g : am_J} {τ : am_T} {Q : am_Q} {x0 x1 x2 x3 : Value} {p0 : Nat} {p1 : Int32} (ht : τ.1 p0 = 3) (hs : st.length ≤ 4) : AW (d + 1) 156 45 [x0, x1, x2, x3] (.int p1 :: .ref p0 :: st) σ ρ g τ Q = AW d 24 0 [.ref p0, .int p1] [] σ ρ g τ (fun r9 σ ρ g τ => AW (d + 1) 156 48 [x0, x1, x2, x3] (r9.toList ++ st) σ ρ g τ Q) := aw_cv m156 d156_45 rfl m24 rfl rfl (by decide) en24 ok24 rfl ht hs
theorem d156_48 : decode cX11_shelf 48 = .ok (.ifCond .eq 16, 3) := by decide +kernel
theorem s156_48 {d : Nat} {st : List Value} {σ : am_I} {ρ : am_R} {g : am_J} {τ : am_T} {Q : am_Q} {x0 x1 x2 x3 : Value} {v : Int32} : AW d 156 48 [x0, x1, x2, x3] (.int v :: st) σ ρ g τ Q = if v = 0 then AW d 156 64 [x0, x1, x2, x3] (st) σ ρ g τ Q else AW d 156 51 [x0, x1, x2, x3] (st) σ ρ g τ Q := aw_br m156 d156_48 rfl rfl rfl
theorem d156_51 : decode cX11_shelf 51 = .ok (.aload_n 0, 1) := by decide +kernel
theorem s156_51 {d : Nat} {st : List Value} {σ : am_I} {ρ : am_R} {g : am_J} {τ : am_T} {Q : am_Q} {x1 x2 x3 : Value} {v : Nat} : AW d 156 51 [.ref v, x1, x2, x3] (st) σ ρ g τ Q = AW d 156 52 [.ref v, x1, x2, x3] (.ref v :: st) σ ρ g τ Q := aw_lc m156 d156_51 rfl rfl rfl
theorem d156_52 : decode cX11_shelf 52 = .ok (.getfield 56, 3) := by decide +kernel
theorem s156_52 {d : Nat} {st : List Value} {σ : am_I} {ρ : am_R} {g : am_J} {τ : am_T} {Q : am_Q} {x0 x1 x2 x3 : Value} {a : Nat} (ht : τ.1 a = 11) : AW d 156 52 [x0, x1, x2, x3] (.ref a :: st) σ ρ g τ Q = AW d 156 55 [x0, x1, x2, x3] (va_rf (ρ a 7) :: st) σ ρ g τ Q := aw_gr m156 d156_52 rfl rfl rfl ht
theorem d156_55 : decode cX11_shelf 55 = .ok (.iload_n 1, 1) := by decide +kernel
theorem s156_55 {d : Nat} {st : List Value} {σ : am_I} {ρ : am_R} {g : am_J} {τ : am_T} {Q : am_Q} {x0 x2 x3 : Value} {v : Int32} : AW d 156 55 [x0, .int v, x2, x3] (st) σ ρ g τ Q = AW d 156 56 [x0, .int v, x2, x3] (.int v :: st) σ ρ g τ Q := aw_lc m156 d156_55 rfl rfl rfl
theorem d156_56 : decode cX11_shelf 56 = .ok (.iload_n 2, 1) := by decide +kernel
theorem s156_56 {d : Nat} {st : List Value} {σ : am_I} {ρ : am_R} {g : am_J} {τ : am_T} {Q : am_Q} {x0 x1 x3 : Value} {v : Int32} : AW d 156 56 [x0, x1, .int v, x3] (st) σ ρ g τ Q = AW d 156 57 [x0, x1, .int v, x3] (.int v :: st) σ ρ g τ Q := aw_lc m156 d156_56 rfl rfl rfl
theorem d156_57 : decode cX11_shelf 57 = .ok (.iload_n 3, 1) := by decide +kernel
theorem s156_57 {d : Nat} {st : List Value} {σ : am_I} {ρ : am_R} {g : am_J} {τ : am_T} {Q : am_Q} {x0 x1 x2 : Value} {v : Int32} : AW d 156 57 [x0, x1, x2, .int v] (st) σ ρ g τ Q = AW d 156 58 [x0, x1, x2, .int v] (.int v :: st) σ ρ g τ Q := aw_lc m156 d156_57 rfl rfl rfl
theorem d156_58 : decode cX11_shelf 58 = .ok (.invokevirtual 424, 3) := by decide +kernel
theorem s156_58 {d : Nat} {st : List Value} {σ : am_I} {ρ : am_R} {g : am_J} {τ : am_T} {Q : am_Q} {x0 x1 x2 x3 : Value} {p0 : Nat} {p1 : Int32} {p2 : Int32} {p3 : Int32} (ht : τ.1 p0 = 2) (hs : st.length ≤ 4) : AW (d + 1) 156 58 [x0, x1, x2, x3] (.int p3 :: .int p2 :: .int p1 :: .ref p0 :: st) σ ρ g τ Q = AW d 19 0 [.ref p0, .int p1, .int p2, .int p3] [] σ ρ g τ (fun r9 σ ρ g τ => AW (d + 1) 156 61 [x0, x1, x2, x3] (r9.toList ++ st) σ ρ g τ Q) := aw_cv m156 d156_58 rfl m19 rfl rfl (by decide) en19 ok19 rfl ht hs
theorem d156_61 : decode cX11_shelf 61 = .ok (.goto 4, 3) := by decide +kernel
theorem s156_61 {d : Nat} {st : List Value} {σ : am_I} {ρ : am_R} {g : am_J} {τ : am_T} {Q : am_Q} {x0 x1 x2 x3 : Value} : AW d 156 61 [x0, x1, x2, x3] (st) σ ρ g τ Q = AW d 156 65 [x0, x1, x2, x3] (st) σ ρ g τ Q := aw_lc m156 d156_61 rfl rfl rfl
theorem d156_64 : decode cX11_shelf 64 = .ok (.iconst (-1), 1) := by decide +kernel
theorem s156_64 {d : Nat} {st : List Value} {σ : am_I} {ρ : am_R} {g : am_J} {τ : am_T} {Q : am_Q} {x0 x1 x2 x3 : Value} : AW d 156 64 [x0, x1, x2, x3] (st) σ ρ g τ Q = AW d 156 65 [x0, x1, x2, x3] (.int (-1) :: st) σ ρ g τ Q := aw_lc m156 d156_64 rfl rfl rfl
theorem d156_65 : decode cX11_shelf 65 = .ok (.ireturn, 1) := by decide +kernel
theorem s156_65 {d : Nat} {σ : am_I} {ρ : am_R} {g : am_J} {τ : am_T} {Q : am_Q} {x0 x1 x2 x3 : Value} {v : Int32} : AW d 156 65 [x0, x1, x2, x3] ([.int v]) σ ρ g τ Q = Q (some (.int v)) σ ρ g τ := aw_ri m156 d156_65 rfl
theorem d156_66 : decode cX11_shelf 66 = .ok (.aload_n 0, 1) := by decide +kernel
theorem s156_66 {d : Nat} {st : List Value} {σ : am_I} {ρ : am_R} {g : am_J} {τ : am_T} {Q : am_Q} {x1 x2 x3 : Value} {v : Nat} : AW d 156 66 [.ref v, x1, x2, x3] (st) σ ρ g τ Q = AW d 156 67 [.ref v, x1, x2, x3] (.ref v :: st) σ ρ g τ Q := aw_lc m156 d156_66 rfl rfl rfl
theorem d156_67 : decode cX11_shelf 67 = .ok (.getfield 10, 3) := by decide +kernel
theorem s156_67 {d : Nat} {st : List Value} {σ : am_I} {ρ : am_R} {g : am_J} {τ : am_T} {Q : am_Q} {x0 x1 x2 x3 : Value} {a : Nat} (ht : τ.1 a = 11) : AW d 156 67 [x0, x1, x2, x3] (.ref a :: st) σ ρ g τ Q = AW d 156 70 [x0, x1, x2, x3] (va_rf (ρ a 0) :: st) σ ρ g τ Q := aw_gr m156 d156_67 rfl rfl rfl ht
theorem d156_70 : decode cX11_shelf 70 = .ok (.getfield 352, 3) := by decide +kernel
theorem s156_70 {d : Nat} {st : List Value} {σ : am_I} {ρ : am_R} {g : am_J} {τ : am_T} {Q : am_Q} {x0 x1 x2 x3 : Value} {a : Nat} (ht : τ.1 a = 3) : AW d 156 70 [x0, x1, x2, x3] (.ref a :: st) σ ρ g τ Q = AW d 156 73 [x0, x1, x2, x3] (va_rf (ρ a 13) :: st) σ ρ g τ Q := aw_gr m156 d156_70 rfl rfl rfl ht
theorem d156_73 : decode cX11_shelf 73 = .ok (.iload_n 3, 1) := by decide +kernel
theorem s156_73 {d : Nat} {st : List Value} {σ : am_I} {ρ : am_R} {g : am_J} {τ : am_T} {Q : am_Q} {x0 x1 x2 : Value} {v : Int32} : AW d 156 73 [x0, x1, x2, .int v] (st) σ ρ g τ Q = AW d 156 74 [x0, x1, x2, .int v] (.int v :: st) σ ρ g τ Q := aw_lc m156 d156_73 rfl rfl rfl
theorem d156_74 : decode cX11_shelf 74 = .ok (.invokevirtual 336, 3) := by decide +kernel
theorem s156_74 {d : Nat} {st : List Value} {σ : am_I} {ρ : am_R} {g : am_J} {τ : am_T} {Q : am_Q} {x0 x1 x2 x3 : Value} {p0 : Nat} {p1 : Int32} (ht : τ.1 p0 = 4) (hs : st.length ≤ 4) : AW (d + 1) 156 74 [x0, x1, x2, x3] (.int p1 :: .ref p0 :: st) σ ρ g τ Q = AW d 44 0 [.ref p0, .int p1] [] σ ρ g τ (fun r9 σ ρ g τ => AW (d + 1) 156 77 [x0, x1, x2, x3] (r9.toList ++ st) σ ρ g τ Q) := aw_cv m156 d156_74 rfl m44 rfl rfl (by decide) en44 ok44 rfl ht hs
theorem d156_77 : decode cX11_shelf 77 = .ok (.ifCond .eq 16, 3) := by decide +kernel
theorem s156_77 {d : Nat} {st : List Value} {σ : am_I} {ρ : am_R} {g : am_J} {τ : am_T} {Q : am_Q} {x0 x1 x2 x3 : Value} {v : Int32} : AW d 156 77 [x0, x1, x2, x3] (.int v :: st) σ ρ g τ Q = if v = 0 then AW d 156 93 [x0, x1, x2, x3] (st) σ ρ g τ Q else AW d 156 80 [x0, x1, x2, x3] (st) σ ρ g τ Q := aw_br m156 d156_77 rfl rfl rfl
theorem d156_80 : decode cX11_shelf 80 = .ok (.aload_n 0, 1) := by decide +kernel
theorem s156_80 {d : Nat} {st : List Value} {σ : am_I} {ρ : am_R} {g : am_J} {τ : am_T} {Q : am_Q} {x1 x2 x3 : Value} {v : Nat} : AW d 156 80 [.ref v, x1, x2, x3] (st) σ ρ g τ Q = AW d 156 81 [.ref v, x1, x2, x3] (.ref v :: st) σ ρ g τ Q := aw_lc m156 d156_80 rfl rfl rfl
theorem d156_81 : decode cX11_shelf 81 = .ok (.getfield 56, 3) := by decide +kernel
theorem s156_81 {d : Nat} {st : List Value} {σ : am_I} {ρ : am_R} {g : am_J} {τ : am_T} {Q : am_Q} {x0 x1 x2 x3 : Value} {a : Nat} (ht : τ.1 a = 11) : AW d 156 81 [x0, x1, x2, x3] (.ref a :: st) σ ρ g τ Q = AW d 156 84 [x0, x1, x2, x3] (va_rf (ρ a 7) :: st) σ ρ g τ Q := aw_gr m156 d156_81 rfl rfl rfl ht
theorem d156_84 : decode cX11_shelf 84 = .ok (.iload_n 1, 1) := by decide +kernel
theorem s156_84 {d : Nat} {st : List Value} {σ : am_I} {ρ : am_R} {g : am_J} {τ : am_T} {Q : am_Q} {x0 x2 x3 : Value} {v : Int32} : AW d 156 84 [x0, .int v, x2, x3] (st) σ ρ g τ Q = AW d 156 85 [x0, .int v, x2, x3] (.int v :: st) σ ρ g τ Q := aw_lc m156 d156_84 rfl rfl rfl
theorem d156_85 : decode cX11_shelf 85 = .ok (.iload_n 2, 1) := by decide +kernel
theorem s156_85 {d : Nat} {st : List Value} {σ : am_I} {ρ : am_R} {g : am_J} {τ : am_T} {Q : am_Q} {x0 x1 x3 : Value} {v : Int32} : AW d 156 85 [x0, x1, .int v, x3] (st) σ ρ g τ Q = AW d 156 86 [x0, x1, .int v, x3] (.int v :: st) σ ρ g τ Q := aw_lc m156 d156_85 rfl rfl rfl
theorem d156_86 : decode cX11_shelf 86 = .ok (.iload_n 3, 1) := by decide +kernel
theorem s156_86 {d : Nat} {st : List Value} {σ : am_I} {ρ : am_R} {g : am_J} {τ : am_T} {Q : am_Q} {x0 x1 x2 : Value} {v : Int32} : AW d 156 86 [x0, x1, x2, .int v] (st) σ ρ g τ Q = AW d 156 87 [x0, x1, x2, .int v] (.int v :: st) σ ρ g τ Q := aw_lc m156 d156_86 rfl rfl rfl
theorem d156_87 : decode cX11_shelf 87 = .ok (.invokevirtual 424, 3) := by decide +kernel
theorem s156_87 {d : Nat} {st : List Value} {σ : am_I} {ρ : am_R} {g : am_J} {τ : am_T} {Q : am_Q} {x0 x1 x2 x3 : Value} {p0 : Nat} {p1 : Int32} {p2 : Int32} {p3 : Int32} (ht : τ.1 p0 = 2) (hs : st.length ≤ 4) : AW (d + 1) 156 87 [x0, x1, x2, x3] (.int p3 :: .int p2 :: .int p1 :: .ref p0 :: st) σ ρ g τ Q = AW d 19 0 [.ref p0, .int p1, .int p2, .int p3] [] σ ρ g τ (fun r9 σ ρ g τ => AW (d + 1) 156 90 [x0, x1, x2, x3] (r9.toList ++ st) σ ρ g τ Q) := aw_cv m156 d156_87 rfl m19 rfl rfl (by decide) en19 ok19 rfl ht hs
theorem d156_90 : decode cX11_shelf 90 = .ok (.goto 4, 3) := by decide +kernel
theorem s156_90 {d : Nat} {st : List Value} {σ : am_I} {ρ : am_R} {g : am_J} {τ : am_T} {Q : am_Q} {x0 x1 x2 x3 : Value} : AW d 156 90 [x0, x1, x2, x3] (st) σ ρ g τ Q = AW d 156 94 [x0, x1, x2, x3] (st) σ ρ g τ Q := aw_lc m156 d156_90 rfl rfl rfl
theorem d156_93 : decode cX11_shelf 93 = .ok (.iconst (-1), 1) := by decide +kernel
theorem s156_93 {d : Nat} {st : List Value} {σ : am_I} {ρ : am_R} {g : am_J} {τ : am_T} {Q : am_Q} {x0 x1 x2 x3 : Value} : AW d 156 93 [x0, x1, x2, x3] (st) σ ρ g τ Q = AW d 156 94 [x0, x1, x2, x3] (.int (-1) :: st) σ ρ g τ Q := aw_lc m156 d156_93 rfl rfl rfl
theorem d156_94 : decode cX11_shelf 94 = .ok (.ireturn, 1) := by decide +kernel
theorem s156_94 {d : Nat} {σ : am_I} {ρ : am_R} {g : am_J} {τ : am_T} {Q : am_Q} {x0 x1 x2 x3 : Value} {v : Int32} : AW d 156 94 [x0, x1, x2, x3] ([.int v]) σ ρ g τ Q = Q (some (.int v)) σ ρ g τ := aw_ri m156 d156_94 rfl
theorem d156_95 : decode cX11_shelf 95 = .ok (.iload_n 3, 1) := by decide +kernel
theorem s156_95 {d : Nat} {st : List Value} {σ : am_I} {ρ : am_R} {g : am_J} {τ : am_T} {Q : am_Q} {x0 x1 x2 : Value} {v : Int32} : AW d 156 95 [x0, x1, x2, .int v] (st) σ ρ g τ Q = AW d 156 96 [x0, x1, x2, .int v] (.int v :: st) σ ρ g τ Q := aw_lc m156 d156_95 rfl rfl rfl
theorem d156_96 : decode cX11_shelf 96 = .ok (.invokestatic 132, 3) := by decide +kernel
theorem s156_96 {d : Nat} {st : List Value} {σ : am_I} {ρ : am_R} {g : am_J} {τ : am_T} {Q : am_Q} {x0 x1 x2 x3 : Value} {p0 : Int32} (hs : st.length ≤ 4) : AW (d + 1) 156 96 [x0, x1, x2, x3] (.int p0 :: st) σ ρ g τ Q = AW d 106 0 [.int p0] [] σ ρ g τ (fun r9 σ ρ g τ => AW (d + 1) 156 99 [x0, x1, x2, x3] (r9.toList ++ st) σ ρ g τ Q) := aw_cs m156 d156_96 rfl (by simp only [List.length_cons]; omega) rfl rfl en106 ok106 rfl hs
theorem d156_99 : decode cX11_shelf 99 = .ok (.ifCond .eq 15, 3) := by decide +kernel
theorem s156_99 {d : Nat} {st : List Value} {σ : am_I} {ρ : am_R} {g : am_J} {τ : am_T} {Q : am_Q} {x0 x1 x2 x3 : Value} {v : Int32} : AW d 156 99 [x0, x1, x2, x3] (.int v :: st) σ ρ g τ Q = if v = 0 then AW d 156 114 [x0, x1, x2, x3] (st) σ ρ g τ Q else AW d 156 102 [x0, x1, x2, x3] (st) σ ρ g τ Q := aw_br m156 d156_99 rfl rfl rfl
theorem d156_102 : decode cX11_shelf 102 = .ok (.aload_n 0, 1) := by decide +kernel
theorem s156_102 {d : Nat} {st : List Value} {σ : am_I} {ρ : am_R} {g : am_J} {τ : am_T} {Q : am_Q} {x1 x2 x3 : Value} {v : Nat} : AW d 156 102 [.ref v, x1, x2, x3] (st) σ ρ g τ Q = AW d 156 103 [.ref v, x1, x2, x3] (.ref v :: st) σ ρ g τ Q := aw_lc m156 d156_102 rfl rfl rfl
theorem d156_103 : decode cX11_shelf 103 = .ok (.getfield 56, 3) := by decide +kernel
theorem s156_103 {d : Nat} {st : List Value} {σ : am_I} {ρ : am_R} {g : am_J} {τ : am_T} {Q : am_Q} {x0 x1 x2 x3 : Value} {a : Nat} (ht : τ.1 a = 11) : AW d 156 103 [x0, x1, x2, x3] (.ref a :: st) σ ρ g τ Q = AW d 156 106 [x0, x1, x2, x3] (va_rf (ρ a 7) :: st) σ ρ g τ Q := aw_gr m156 d156_103 rfl rfl rfl ht
theorem d156_106 : decode cX11_shelf 106 = .ok (.iload_n 1, 1) := by decide +kernel
theorem s156_106 {d : Nat} {st : List Value} {σ : am_I} {ρ : am_R} {g : am_J} {τ : am_T} {Q : am_Q} {x0 x2 x3 : Value} {v : Int32} : AW d 156 106 [x0, .int v, x2, x3] (st) σ ρ g τ Q = AW d 156 107 [x0, .int v, x2, x3] (.int v :: st) σ ρ g τ Q := aw_lc m156 d156_106 rfl rfl rfl
theorem d156_107 : decode cX11_shelf 107 = .ok (.iload_n 3, 1) := by decide +kernel
theorem s156_107 {d : Nat} {st : List Value} {σ : am_I} {ρ : am_R} {g : am_J} {τ : am_T} {Q : am_Q} {x0 x1 x2 : Value} {v : Int32} : AW d 156 107 [x0, x1, x2, .int v] (st) σ ρ g τ Q = AW d 156 108 [x0, x1, x2, .int v] (.int v :: st) σ ρ g τ Q := aw_lc m156 d156_107 rfl rfl rfl
theorem d156_108 : decode cX11_shelf 108 = .ok (.invokevirtual 427, 3) := by decide +kernel
theorem s156_108 {d : Nat} {st : List Value} {σ : am_I} {ρ : am_R} {g : am_J} {τ : am_T} {Q : am_Q} {x0 x1 x2 x3 : Value} {p0 : Nat} {p1 : Int32} {p2 : Int32} (ht : τ.1 p0 = 2) (hs : st.length ≤ 4) : AW (d + 1) 156 108 [x0, x1, x2, x3] (.int p2 :: .int p1 :: .ref p0 :: st) σ ρ g τ Q = AW d 20 0 [.ref p0, .int p1, .int p2] [] σ ρ g τ (fun r9 σ ρ g τ => AW (d + 1) 156 111 [x0, x1, x2, x3] (r9.toList ++ st) σ ρ g τ Q) := aw_cv m156 d156_108 rfl m20 rfl rfl (by decide) en20 ok20 rfl ht hs
theorem d156_111 : decode cX11_shelf 111 = .ok (.goto 4, 3) := by decide +kernel
theorem s156_111 {d : Nat} {st : List Value} {σ : am_I} {ρ : am_R} {g : am_J} {τ : am_T} {Q : am_Q} {x0 x1 x2 x3 : Value} : AW d 156 111 [x0, x1, x2, x3] (st) σ ρ g τ Q = AW d 156 115 [x0, x1, x2, x3] (st) σ ρ g τ Q := aw_lc m156 d156_111 rfl rfl rfl
theorem d156_114 : decode cX11_shelf 114 = .ok (.iconst (-1), 1) := by decide +kernel
theorem s156_114 {d : Nat} {st : List Value} {σ : am_I} {ρ : am_R} {g : am_J} {τ : am_T} {Q : am_Q} {x0 x1 x2 x3 : Value} : AW d 156 114 [x0, x1, x2, x3] (st) σ ρ g τ Q = AW d 156 115 [x0, x1, x2, x3] (.int (-1) :: st) σ ρ g τ Q := aw_lc m156 d156_114 rfl rfl rfl
theorem d156_115 : decode cX11_shelf 115 = .ok (.ireturn, 1) := by decide +kernel
theorem s156_115 {d : Nat} {σ : am_I} {ρ : am_R} {g : am_J} {τ : am_T} {Q : am_Q} {x0 x1 x2 x3 : Value} {v : Int32} : AW d 156 115 [x0, x1, x2, x3] ([.int v]) σ ρ g τ Q = Q (some (.int v)) σ ρ g τ := aw_ri m156 d156_115 rfl
theorem d156_116 : decode cX11_shelf 116 = .ok (.aload_n 0, 1) := by decide +kernel
theorem s156_116 {d : Nat} {st : List Value} {σ : am_I} {ρ : am_R} {g : am_J} {τ : am_T} {Q : am_Q} {x1 x2 x3 : Value} {v : Nat} : AW d 156 116 [.ref v, x1, x2, x3] (st) σ ρ g τ Q = AW d 156 117 [.ref v, x1, x2, x3] (.ref v :: st) σ ρ g τ Q := aw_lc m156 d156_116 rfl rfl rfl
theorem d156_117 : decode cX11_shelf 117 = .ok (.getfield 56, 3) := by decide +kernel
theorem s156_117 {d : Nat} {st : List Value} {σ : am_I} {ρ : am_R} {g : am_J} {τ : am_T} {Q : am_Q} {x0 x1 x2 x3 : Value} {a : Nat} (ht : τ.1 a = 11) : AW d 156 117 [x0, x1, x2, x3] (.ref a :: st) σ ρ g τ Q = AW d 156 120 [x0, x1, x2, x3] (va_rf (ρ a 7) :: st) σ ρ g τ Q := aw_gr m156 d156_117 rfl rfl rfl ht
theorem d156_120 : decode cX11_shelf 120 = .ok (.iload_n 1, 1) := by decide +kernel
theorem s156_120 {d : Nat} {st : List Value} {σ : am_I} {ρ : am_R} {g : am_J} {τ : am_T} {Q : am_Q} {x0 x2 x3 : Value} {v : Int32} : AW d 156 120 [x0, .int v, x2, x3] (st) σ ρ g τ Q = AW d 156 121 [x0, .int v, x2, x3] (.int v :: st) σ ρ g τ Q := aw_lc m156 d156_120 rfl rfl rfl
theorem d156_121 : decode cX11_shelf 121 = .ok (.iload_n 2, 1) := by decide +kernel
theorem s156_121 {d : Nat} {st : List Value} {σ : am_I} {ρ : am_R} {g : am_J} {τ : am_T} {Q : am_Q} {x0 x1 x3 : Value} {v : Int32} : AW d 156 121 [x0, x1, .int v, x3] (st) σ ρ g τ Q = AW d 156 122 [x0, x1, .int v, x3] (.int v :: st) σ ρ g τ Q := aw_lc m156 d156_121 rfl rfl rfl
theorem d156_122 : decode cX11_shelf 122 = .ok (.iconst 0, 1) := by decide +kernel
theorem s156_122 {d : Nat} {st : List Value} {σ : am_I} {ρ : am_R} {g : am_J} {τ : am_T} {Q : am_Q} {x0 x1 x2 x3 : Value} : AW d 156 122 [x0, x1, x2, x3] (st) σ ρ g τ Q = AW d 156 123 [x0, x1, x2, x3] (.int 0 :: st) σ ρ g τ Q := aw_lc m156 d156_122 rfl rfl rfl
theorem d156_123 : decode cX11_shelf 123 = .ok (.invokevirtual 424, 3) := by decide +kernel
theorem s156_123 {d : Nat} {st : List Value} {σ : am_I} {ρ : am_R} {g : am_J} {τ : am_T} {Q : am_Q} {x0 x1 x2 x3 : Value} {p0 : Nat} {p1 : Int32} {p2 : Int32} {p3 : Int32} (ht : τ.1 p0 = 2) (hs : st.length ≤ 4) : AW (d + 1) 156 123 [x0, x1, x2, x3] (.int p3 :: .int p2 :: .int p1 :: .ref p0 :: st) σ ρ g τ Q = AW d 19 0 [.ref p0, .int p1, .int p2, .int p3] [] σ ρ g τ (fun r9 σ ρ g τ => AW (d + 1) 156 126 [x0, x1, x2, x3] (r9.toList ++ st) σ ρ g τ Q) := aw_cv m156 d156_123 rfl m19 rfl rfl (by decide) en19 ok19 rfl ht hs
theorem d156_126 : decode cX11_shelf 126 = .ok (.ireturn, 1) := by decide +kernel
theorem s156_126 {d : Nat} {σ : am_I} {ρ : am_R} {g : am_J} {τ : am_T} {Q : am_Q} {x0 x1 x2 x3 : Value} {v : Int32} : AW d 156 126 [x0, x1, x2, x3] ([.int v]) σ ρ g τ Q = Q (some (.int v)) σ ρ g τ := aw_ri m156 d156_126 rfl
theorem d156_127 : decode cX11_shelf 127 = .ok (.iconst (-1), 1) := by decide +kernel
theorem s156_127 {d : Nat} {st : List Value} {σ : am_I} {ρ : am_R} {g : am_J} {τ : am_T} {Q : am_Q} {x0 x1 x2 x3 : Value} : AW d 156 127 [x0, x1, x2, x3] (st) σ ρ g τ Q = AW d 156 128 [x0, x1, x2, x3] (.int (-1) :: st) σ ρ g τ Q := aw_lc m156 d156_127 rfl rfl rfl
theorem d156_128 : decode cX11_shelf 128 = .ok (.ireturn, 1) := by decide +kernel
theorem s156_128 {d : Nat} {σ : am_I} {ρ : am_R} {g : am_J} {τ : am_T} {Q : am_Q} {x0 x1 x2 x3 : Value} {v : Int32} : AW d 156 128 [x0, x1, x2, x3] ([.int v]) σ ρ g τ Q = Q (some (.int v)) σ ρ g τ := aw_ri m156 d156_128 rfl
theorem d157_0 : decode cX11_taken 0 = .ok (.iload_n 2, 1) := by decide +kernel
theorem s157_0 {d : Nat} {st : List Value} {σ : am_I} {ρ : am_R} {g : am_J} {τ : am_T} {Q : am_Q} {x0 x1 x3 x4 : Value} {v : Int32} : AW d 157 0 [x0, x1, .int v, x3, x4] (st) σ ρ g τ Q = AW d 157 1 [x0, x1, .int v, x3, x4] (.int v :: st) σ ρ g τ Q := aw_lc m157 d157_0 rfl rfl rfl
theorem d157_1 : decode cX11_taken 1 = .ok (.iconst 0, 1) := by decide +kernel
theorem s157_1 {d : Nat} {st : List Value} {σ : am_I} {ρ : am_R} {g : am_J} {τ : am_T} {Q : am_Q} {x0 x1 x2 x3 x4 : Value} : AW d 157 1 [x0, x1, x2, x3, x4] (st) σ ρ g τ Q = AW d 157 2 [x0, x1, x2, x3, x4] (.int 0 :: st) σ ρ g τ Q := aw_lc m157 d157_1 rfl rfl rfl
theorem d157_2 : decode cX11_taken 2 = .ok (.bipush 6, 2) := by decide +kernel
theorem s157_2 {d : Nat} {st : List Value} {σ : am_I} {ρ : am_R} {g : am_J} {τ : am_T} {Q : am_Q} {x0 x1 x2 x3 x4 : Value} : AW d 157 2 [x0, x1, x2, x3, x4] (st) σ ρ g τ Q = AW d 157 4 [x0, x1, x2, x3, x4] (.int 6 :: st) σ ρ g τ Q := aw_lc m157 d157_2 rfl rfl rfl
theorem d157_4 : decode cX11_taken 4 = .ok (.invokestatic 74, 3) := by decide +kernel
theorem s157_4 {d : Nat} {st : List Value} {σ : am_I} {ρ : am_R} {g : am_J} {τ : am_T} {Q : am_Q} {x0 x1 x2 x3 x4 : Value} {p0 : Int32} {p1 : Int32} {p2 : Int32} (hs : st.length ≤ 4) : AW (d + 1) 157 4 [x0, x1, x2, x3, x4] (.int p2 :: .int p1 :: .int p0 :: st) σ ρ g τ Q = AW d 100 0 [.int p0, .int p1, .int p2] [] σ ρ g τ (fun r9 σ ρ g τ => AW (d + 1) 157 7 [x0, x1, x2, x3, x4] (r9.toList ++ st) σ ρ g τ Q) := aw_cs m157 d157_4 rfl (by simp only [List.length_cons]; omega) rfl rfl en100 ok100 rfl hs
theorem d157_7 : decode cX11_taken 7 = .ok (.istore_n 3, 1) := by decide +kernel
theorem s157_7 {d : Nat} {st : List Value} {σ : am_I} {ρ : am_R} {g : am_J} {τ : am_T} {Q : am_Q} {x0 x1 x3 x4 : Value} {v : Int32} {u : Int32} : AW d 157 7 [x0, x1, .int u, x3, x4] (.int v :: st) σ ρ g τ Q = AW d 157 8 [x0, x1, .int u, .int v, x4] (st) σ ρ g τ Q := aw_lc m157 d157_7 rfl rfl rfl
theorem d157_8 : decode cX11_taken 8 = .ok (.iload_n 1, 1) := by decide +kernel
theorem s157_8 {d : Nat} {st : List Value} {σ : am_I} {ρ : am_R} {g : am_J} {τ : am_T} {Q : am_Q} {x0 x2 x3 x4 : Value} {v : Int32} : AW d 157 8 [x0, .int v, x2, x3, x4] (st) σ ρ g τ Q = AW d 157 9 [x0, .int v, x2, x3, x4] (.int v :: st) σ ρ g τ Q := aw_lc m157 d157_8 rfl rfl rfl
theorem d157_9 : decode cX11_taken 9 = .ok (.invokestatic 421, 3) := by decide +kernel
theorem s157_9 {d : Nat} {st : List Value} {σ : am_I} {ρ : am_R} {g : am_J} {τ : am_T} {Q : am_Q} {x0 x1 x2 x3 x4 : Value} {p0 : Int32} (hs : st.length ≤ 4) : AW (d + 1) 157 9 [x0, x1, x2, x3, x4] (.int p0 :: st) σ ρ g τ Q = AW d 107 0 [.int p0] [] σ ρ g τ (fun r9 σ ρ g τ => AW (d + 1) 157 12 [x0, x1, x2, x3, x4] (r9.toList ++ st) σ ρ g τ Q) := aw_cs m157 d157_9 rfl (by simp only [List.length_cons]; omega) rfl rfl en107 ok107 rfl hs
theorem d157_12 : decode cX11_taken 12 = .ok (.ifCond .eq 18, 3) := by decide +kernel
theorem s157_12 {d : Nat} {st : List Value} {σ : am_I} {ρ : am_R} {g : am_J} {τ : am_T} {Q : am_Q} {x0 x1 x2 x3 x4 : Value} {v : Int32} : AW d 157 12 [x0, x1, x2, x3, x4] (.int v :: st) σ ρ g τ Q = if v = 0 then AW d 157 30 [x0, x1, x2, x3, x4] (st) σ ρ g τ Q else AW d 157 15 [x0, x1, x2, x3, x4] (st) σ ρ g τ Q := aw_br m157 d157_12 rfl rfl rfl
theorem d157_15 : decode cX11_taken 15 = .ok (.iload_n 3, 1) := by decide +kernel
theorem s157_15 {d : Nat} {st : List Value} {σ : am_I} {ρ : am_R} {g : am_J} {τ : am_T} {Q : am_Q} {x0 x1 x2 x4 : Value} {v : Int32} : AW d 157 15 [x0, x1, x2, .int v, x4] (st) σ ρ g τ Q = AW d 157 16 [x0, x1, x2, .int v, x4] (.int v :: st) σ ρ g τ Q := aw_lc m157 d157_15 rfl rfl rfl
theorem d157_16 : decode cX11_taken 16 = .ok (.ifCond .ne 16, 3) := by decide +kernel
theorem s157_16 {d : Nat} {st : List Value} {σ : am_I} {ρ : am_R} {g : am_J} {τ : am_T} {Q : am_Q} {x0 x1 x2 x3 x4 : Value} {v : Int32} : AW d 157 16 [x0, x1, x2, x3, x4] (.int v :: st) σ ρ g τ Q = if ¬ v = 0 then AW d 157 32 [x0, x1, x2, x3, x4] (st) σ ρ g τ Q else AW d 157 19 [x0, x1, x2, x3, x4] (st) σ ρ g τ Q := aw_br m157 d157_16 rfl rfl rfl
theorem d157_19 : decode cX11_taken 19 = .ok (.iload_n 2, 1) := by decide +kernel
theorem s157_19 {d : Nat} {st : List Value} {σ : am_I} {ρ : am_R} {g : am_J} {τ : am_T} {Q : am_Q} {x0 x1 x3 x4 : Value} {v : Int32} : AW d 157 19 [x0, x1, .int v, x3, x4] (st) σ ρ g τ Q = AW d 157 20 [x0, x1, .int v, x3, x4] (.int v :: st) σ ρ g τ Q := aw_lc m157 d157_19 rfl rfl rfl
theorem d157_20 : decode cX11_taken 20 = .ok (.bipush 10, 2) := by decide +kernel
theorem s157_20 {d : Nat} {st : List Value} {σ : am_I} {ρ : am_R} {g : am_J} {τ : am_T} {Q : am_Q} {x0 x1 x2 x3 x4 : Value} : AW d 157 20 [x0, x1, x2, x3, x4] (st) σ ρ g τ Q = AW d 157 22 [x0, x1, x2, x3, x4] (.int 10 :: st) σ ρ g τ Q := aw_lc m157 d157_20 rfl rfl rfl
theorem d157_22 : decode cX11_taken 22 = .ok (.bipush 14, 2) := by decide +kernel
theorem s157_22 {d : Nat} {st : List Value} {σ : am_I} {ρ : am_R} {g : am_J} {τ : am_T} {Q : am_Q} {x0 x1 x2 x3 x4 : Value} : AW d 157 22 [x0, x1, x2, x3, x4] (st) σ ρ g τ Q = AW d 157 24 [x0, x1, x2, x3, x4] (.int 14 :: st) σ ρ g τ Q := aw_lc m157 d157_22 rfl rfl rfl
theorem d157_24 : decode cX11_taken 24 = .ok (.invokestatic 74, 3) := by decide +kernel
theorem s157_24 {d : Nat} {st : List Value} {σ : am_I} {ρ : am_R} {g : am_J} {τ : am_T} {Q : am_Q} {x0 x1 x2 x3 x4 : Value} {p0 : Int32} {p1 : Int32} {p2 : Int32} (hs : st.length ≤ 4) : AW (d + 1) 157 24 [x0, x1, x2, x3, x4] (.int p2 :: .int p1 :: .int p0 :: st) σ ρ g τ Q = AW d 100 0 [.int p0, .int p1, .int p2] [] σ ρ g τ (fun r9 σ ρ g τ => AW (d + 1) 157 27 [x0, x1, x2, x3, x4] (r9.toList ++ st) σ ρ g τ Q) := aw_cs m157 d157_24 rfl (by simp only [List.length_cons]; omega) rfl rfl en100 ok100 rfl hs
theorem d157_27 : decode cX11_taken 27 = .ok (.ifCond .ne 5, 3) := by decide +kernel
theorem s157_27 {d : Nat} {st : List Value} {σ : am_I} {ρ : am_R} {g : am_J} {τ : am_T} {Q : am_Q} {x0 x1 x2 x3 x4 : Value} {v : Int32} : AW d 157 27 [x0, x1, x2, x3, x4] (.int v :: st) σ ρ g τ Q = if ¬ v = 0 then AW d 157 32 [x0, x1, x2, x3, x4] (st) σ ρ g τ Q else AW d 157 30 [x0, x1, x2, x3, x4] (st) σ ρ g τ Q := aw_br m157 d157_27 rfl rfl rfl
theorem d157_30 : decode cX11_taken 30 = .ok (.iconst (-1), 1) := by decide +kernel
theorem s157_30 {d : Nat} {st : List Value} {σ : am_I} {ρ : am_R} {g : am_J} {τ : am_T} {Q : am_Q} {x0 x1 x2 x3 x4 : Value} : AW d 157 30 [x0, x1, x2, x3, x4] (st) σ ρ g τ Q = AW d 157 31 [x0, x1, x2, x3, x4] (.int (-1) :: st) σ ρ g τ Q := aw_lc m157 d157_30 rfl rfl rfl
theorem d157_31 : decode cX11_taken 31 = .ok (.ireturn, 1) := by decide +kernel
theorem s157_31 {d : Nat} {σ : am_I} {ρ : am_R} {g : am_J} {τ : am_T} {Q : am_Q} {x0 x1 x2 x3 x4 : Value} {v : Int32} : AW d 157 31 [x0, x1, x2, x3, x4] ([.int v]) σ ρ g τ Q = Q (some (.int v)) σ ρ g τ := aw_ri m157 d157_31 rfl
theorem d157_32 : decode cX11_taken 32 = .ok (.aload_n 0, 1) := by decide +kernel
theorem s157_32 {d : Nat} {st : List Value} {σ : am_I} {ρ : am_R} {g : am_J} {τ : am_T} {Q : am_Q} {x1 x2 x3 x4 : Value} {v : Nat} : AW d 157 32 [.ref v, x1, x2, x3, x4] (st) σ ρ g τ Q = AW d 157 33 [.ref v, x1, x2, x3, x4] (.ref v :: st) σ ρ g τ Q := aw_lc m157 d157_32 rfl rfl rfl
theorem d157_33 : decode cX11_taken 33 = .ok (.getfield 56, 3) := by decide +kernel
theorem s157_33 {d : Nat} {st : List Value} {σ : am_I} {ρ : am_R} {g : am_J} {τ : am_T} {Q : am_Q} {x0 x1 x2 x3 x4 : Value} {a : Nat} (ht : τ.1 a = 11) : AW d 157 33 [x0, x1, x2, x3, x4] (.ref a :: st) σ ρ g τ Q = AW d 157 36 [x0, x1, x2, x3, x4] (va_rf (ρ a 7) :: st) σ ρ g τ Q := aw_gr m157 d157_33 rfl rfl rfl ht
theorem d157_36 : decode cX11_taken 36 = .ok (.getfield 430, 3) := by decide +kernel
theorem s157_36 {d : Nat} {st : List Value} {σ : am_I} {ρ : am_R} {g : am_J} {τ : am_T} {Q : am_Q} {x0 x1 x2 x3 x4 : Value} {a : Nat} (ht : τ.1 a = 2) : AW d 157 36 [x0, x1, x2, x3, x4] (.ref a :: st) σ ρ g τ Q = AW d 157 39 [x0, x1, x2, x3, x4] (va_rf (ρ a 3) :: st) σ ρ g τ Q := aw_gr m157 d157_36 rfl rfl rfl ht
theorem d157_39 : decode cX11_taken 39 = .ok (.iload_n 1, 1) := by decide +kernel
theorem s157_39 {d : Nat} {st : List Value} {σ : am_I} {ρ : am_R} {g : am_J} {τ : am_T} {Q : am_Q} {x0 x2 x3 x4 : Value} {v : Int32} : AW d 157 39 [x0, .int v, x2, x3, x4] (st) σ ρ g τ Q = AW d 157 40 [x0, .int v, x2, x3, x4] (.int v :: st) σ ρ g τ Q := aw_lc m157 d157_39 rfl rfl rfl
theorem d157_40 : decode cX11_taken 40 = .ok (.iaload, 1) := by decide +kernel
theorem s157_40 {d : Nat} {st : List Value} {σ : am_I} {ρ : am_R} {g : am_J} {τ : am_T} {Q : am_Q} {x0 x1 x2 x3 x4 : Value} {a : Nat} {j : Int32} (ht : τ.1 a = 15) (hj : am_inb j (τ.2.1 a) = true) : AW d 157 40 [x0, x1, x2, x3, x4] (.int j :: .ref a :: st) σ ρ g τ Q = AW d 157 41 [x0, x1, x2, x3, x4] (.int (σ a j.toNatClampNeg) :: st) σ ρ g τ Q := aw_ial m157 d157_40 rfl ht hj
theorem d157_41 : decode cX11_taken 41 = .ok (.iconst 2, 1) := by decide +kernel
theorem s157_41 {d : Nat} {st : List Value} {σ : am_I} {ρ : am_R} {g : am_J} {τ : am_T} {Q : am_Q} {x0 x1 x2 x3 x4 : Value} : AW d 157 41 [x0, x1, x2, x3, x4] (st) σ ρ g τ Q = AW d 157 42 [x0, x1, x2, x3, x4] (.int 2 :: st) σ ρ g τ Q := aw_lc m157 d157_41 rfl rfl rfl
theorem d157_42 : decode cX11_taken 42 = .ok (.if_icmp .ne 34, 3) := by decide +kernel
theorem s157_42 {d : Nat} {st : List Value} {σ : am_I} {ρ : am_R} {g : am_J} {τ : am_T} {Q : am_Q} {x0 x1 x2 x3 x4 : Value} {v w : Int32} : AW d 157 42 [x0, x1, x2, x3, x4] (.int w :: .int v :: st) σ ρ g τ Q = if ¬ v = w then AW d 157 76 [x0, x1, x2, x3, x4] (st) σ ρ g τ Q else AW d 157 45 [x0, x1, x2, x3, x4] (st) σ ρ g τ Q := aw_br m157 d157_42 rfl rfl rfl
theorem d157_45 : decode cX11_taken 45 = .ok (.aload_n 0, 1) := by decide +kernel
theorem s157_45 {d : Nat} {st : List Value} {σ : am_I} {ρ : am_R} {g : am_J} {τ : am_T} {Q : am_Q} {x1 x2 x3 x4 : Value} {v : Nat} : AW d 157 45 [.ref v, x1, x2, x3, x4] (st) σ ρ g τ Q = AW d 157 46 [.ref v, x1, x2, x3, x4] (.ref v :: st) σ ρ g τ Q := aw_lc m157 d157_45 rfl rfl rfl
theorem d157_46 : decode cX11_taken 46 = .ok (.getfield 56, 3) := by decide +kernel
theorem s157_46 {d : Nat} {st : List Value} {σ : am_I} {ρ : am_R} {g : am_J} {τ : am_T} {Q : am_Q} {x0 x1 x2 x3 x4 : Value} {a : Nat} (ht : τ.1 a = 11) : AW d 157 46 [x0, x1, x2, x3, x4] (.ref a :: st) σ ρ g τ Q = AW d 157 49 [x0, x1, x2, x3, x4] (va_rf (ρ a 7) :: st) σ ρ g τ Q := aw_gr m157 d157_46 rfl rfl rfl ht
theorem d157_49 : decode cX11_taken 49 = .ok (.getfield 433, 3) := by decide +kernel
theorem s157_49 {d : Nat} {st : List Value} {σ : am_I} {ρ : am_R} {g : am_J} {τ : am_T} {Q : am_Q} {x0 x1 x2 x3 x4 : Value} {a : Nat} (ht : τ.1 a = 2) : AW d 157 49 [x0, x1, x2, x3, x4] (.ref a :: st) σ ρ g τ Q = AW d 157 52 [x0, x1, x2, x3, x4] (va_rf (ρ a 5) :: st) σ ρ g τ Q := aw_gr m157 d157_49 rfl rfl rfl ht
theorem d157_52 : decode cX11_taken 52 = .ok (.iload_n 1, 1) := by decide +kernel
theorem s157_52 {d : Nat} {st : List Value} {σ : am_I} {ρ : am_R} {g : am_J} {τ : am_T} {Q : am_Q} {x0 x2 x3 x4 : Value} {v : Int32} : AW d 157 52 [x0, .int v, x2, x3, x4] (st) σ ρ g τ Q = AW d 157 53 [x0, .int v, x2, x3, x4] (.int v :: st) σ ρ g τ Q := aw_lc m157 d157_52 rfl rfl rfl
theorem d157_53 : decode cX11_taken 53 = .ok (.iaload, 1) := by decide +kernel
theorem s157_53 {d : Nat} {st : List Value} {σ : am_I} {ρ : am_R} {g : am_J} {τ : am_T} {Q : am_Q} {x0 x1 x2 x3 x4 : Value} {a : Nat} {j : Int32} (ht : τ.1 a = 15) (hj : am_inb j (τ.2.1 a) = true) : AW d 157 53 [x0, x1, x2, x3, x4] (.int j :: .ref a :: st) σ ρ g τ Q = AW d 157 54 [x0, x1, x2, x3, x4] (.int (σ a j.toNatClampNeg) :: st) σ ρ g τ Q := aw_ial m157 d157_53 rfl ht hj
theorem d157_54 : decode cX11_taken 54 = .ok (.iload_n 2, 1) := by decide +kernel
theorem s157_54 {d : Nat} {st : List Value} {σ : am_I} {ρ : am_R} {g : am_J} {τ : am_T} {Q : am_Q} {x0 x1 x3 x4 : Value} {v : Int32} : AW d 157 54 [x0, x1, .int v, x3, x4] (st) σ ρ g τ Q = AW d 157 55 [x0, x1, .int v, x3, x4] (.int v :: st) σ ρ g τ Q := aw_lc m157 d157_54 rfl rfl rfl
theorem d157_55 : decode cX11_taken 55 = .ok (.bipush 10, 2) := by decide +kernel
theorem s157_55 {d : Nat} {st : List Value} {σ : am_I} {ρ : am_R} {g : am_J} {τ : am_T} {Q : am_Q} {x0 x1 x2 x3 x4 : Value} : AW d 157 55 [x0, x1, x2, x3, x4] (st) σ ρ g τ Q = AW d 157 57 [x0, x1, x2, x3, x4] (.int 10 :: st) σ ρ g τ Q := aw_lc m157 d157_55 rfl rfl rfl
theorem d157_57 : decode cX11_taken 57 = .ok (.isub, 1) := by decide +kernel
theorem s157_57 {d : Nat} {st : List Value} {σ : am_I} {ρ : am_R} {g : am_J} {τ : am_T} {Q : am_Q} {x0 x1 x2 x3 x4 : Value} {v w : Int32} : AW d 157 57 [x0, x1, x2, x3, x4] (.int w :: .int v :: st) σ ρ g τ Q = AW d 157 58 [x0, x1, x2, x3, x4] (.int (v - w) :: st) σ ρ g τ Q := aw_lc m157 d157_57 rfl rfl rfl
theorem d157_58 : decode cX11_taken 58 = .ok (.if_icmp .ne 15, 3) := by decide +kernel
theorem s157_58 {d : Nat} {st : List Value} {σ : am_I} {ρ : am_R} {g : am_J} {τ : am_T} {Q : am_Q} {x0 x1 x2 x3 x4 : Value} {v w : Int32} : AW d 157 58 [x0, x1, x2, x3, x4] (.int w :: .int v :: st) σ ρ g τ Q = if ¬ v = w then AW d 157 73 [x0, x1, x2, x3, x4] (st) σ ρ g τ Q else AW d 157 61 [x0, x1, x2, x3, x4] (st) σ ρ g τ Q := aw_br m157 d157_58 rfl rfl rfl
theorem d157_61 : decode cX11_taken 61 = .ok (.aload_n 0, 1) := by decide +kernel
theorem s157_61 {d : Nat} {st : List Value} {σ : am_I} {ρ : am_R} {g : am_J} {τ : am_T} {Q : am_Q} {x1 x2 x3 x4 : Value} {v : Nat} : AW d 157 61 [.ref v, x1, x2, x3, x4] (st) σ ρ g τ Q = AW d 157 62 [.ref v, x1, x2, x3, x4] (.ref v :: st) σ ρ g τ Q := aw_lc m157 d157_61 rfl rfl rfl
theorem d157_62 : decode cX11_taken 62 = .ok (.getfield 56, 3) := by decide +kernel
theorem s157_62 {d : Nat} {st : List Value} {σ : am_I} {ρ : am_R} {g : am_J} {τ : am_T} {Q : am_Q} {x0 x1 x2 x3 x4 : Value} {a : Nat} (ht : τ.1 a = 11) : AW d 157 62 [x0, x1, x2, x3, x4] (.ref a :: st) σ ρ g τ Q = AW d 157 65 [x0, x1, x2, x3, x4] (va_rf (ρ a 7) :: st) σ ρ g τ Q := aw_gr m157 d157_62 rfl rfl rfl ht
theorem d157_65 : decode cX11_taken 65 = .ok (.getfield 436, 3) := by decide +kernel
theorem s157_65 {d : Nat} {st : List Value} {σ : am_I} {ρ : am_R} {g : am_J} {τ : am_T} {Q : am_Q} {x0 x1 x2 x3 x4 : Value} {a : Nat} (ht : τ.1 a = 2) : AW d 157 65 [x0, x1, x2, x3, x4] (.ref a :: st) σ ρ g τ Q = AW d 157 68 [x0, x1, x2, x3, x4] (va_rf (ρ a 4) :: st) σ ρ g τ Q := aw_gr m157 d157_65 rfl rfl rfl ht
theorem d157_68 : decode cX11_taken 68 = .ok (.iload_n 1, 1) := by decide +kernel
theorem s157_68 {d : Nat} {st : List Value} {σ : am_I} {ρ : am_R} {g : am_J} {τ : am_T} {Q : am_Q} {x0 x2 x3 x4 : Value} {v : Int32} : AW d 157 68 [x0, .int v, x2, x3, x4] (st) σ ρ g τ Q = AW d 157 69 [x0, .int v, x2, x3, x4] (.int v :: st) σ ρ g τ Q := aw_lc m157 d157_68 rfl rfl rfl
theorem d157_69 : decode cX11_taken 69 = .ok (.iaload, 1) := by decide +kernel
theorem s157_69 {d : Nat} {st : List Value} {σ : am_I} {ρ : am_R} {g : am_J} {τ : am_T} {Q : am_Q} {x0 x1 x2 x3 x4 : Value} {a : Nat} {j : Int32} (ht : τ.1 a = 15) (hj : am_inb j (τ.2.1 a) = true) : AW d 157 69 [x0, x1, x2, x3, x4] (.int j :: .ref a :: st) σ ρ g τ Q = AW d 157 70 [x0, x1, x2, x3, x4] (.int (σ a j.toNatClampNeg) :: st) σ ρ g τ Q := aw_ial m157 d157_69 rfl ht hj
theorem d157_70 : decode cX11_taken 70 = .ok (.goto 5, 3) := by decide +kernel
theorem s157_70 {d : Nat} {st : List Value} {σ : am_I} {ρ : am_R} {g : am_J} {τ : am_T} {Q : am_Q} {x0 x1 x2 x3 x4 : Value} : AW d 157 70 [x0, x1, x2, x3, x4] (st) σ ρ g τ Q = AW d 157 75 [x0, x1, x2, x3, x4] (st) σ ρ g τ Q := aw_lc m157 d157_70 rfl rfl rfl
theorem d157_73 : decode cX11_taken 73 = .ok (.bipush (-13), 2) := by decide +kernel
theorem s157_73 {d : Nat} {st : List Value} {σ : am_I} {ρ : am_R} {g : am_J} {τ : am_T} {Q : am_Q} {x0 x1 x2 x3 x4 : Value} : AW d 157 73 [x0, x1, x2, x3, x4] (st) σ ρ g τ Q = AW d 157 75 [x0, x1, x2, x3, x4] (.int (-13) :: st) σ ρ g τ Q := aw_lc m157 d157_73 rfl rfl rfl
theorem d157_75 : decode cX11_taken 75 = .ok (.ireturn, 1) := by decide +kernel
theorem s157_75 {d : Nat} {σ : am_I} {ρ : am_R} {g : am_J} {τ : am_T} {Q : am_Q} {x0 x1 x2 x3 x4 : Value} {v : Int32} : AW d 157 75 [x0, x1, x2, x3, x4] ([.int v]) σ ρ g τ Q = Q (some (.int v)) σ ρ g τ := aw_ri m157 d157_75 rfl
theorem d157_76 : decode cX11_taken 76 = .ok (.aload_n 0, 1) := by decide +kernel
theorem s157_76 {d : Nat} {st : List Value} {σ : am_I} {ρ : am_R} {g : am_J} {τ : am_T} {Q : am_Q} {x1 x2 x3 x4 : Value} {v : Nat} : AW d 157 76 [.ref v, x1, x2, x3, x4] (st) σ ρ g τ Q = AW d 157 77 [.ref v, x1, x2, x3, x4] (.ref v :: st) σ ρ g τ Q := aw_lc m157 d157_76 rfl rfl rfl
theorem d157_77 : decode cX11_taken 77 = .ok (.iload_n 1, 1) := by decide +kernel
theorem s157_77 {d : Nat} {st : List Value} {σ : am_I} {ρ : am_R} {g : am_J} {τ : am_T} {Q : am_Q} {x0 x2 x3 x4 : Value} {v : Int32} : AW d 157 77 [x0, .int v, x2, x3, x4] (st) σ ρ g τ Q = AW d 157 78 [x0, .int v, x2, x3, x4] (.int v :: st) σ ρ g τ Q := aw_lc m157 d157_77 rfl rfl rfl
theorem d157_78 : decode cX11_taken 78 = .ok (.invokevirtual 439, 3) := by decide +kernel
theorem s157_78 {d : Nat} {st : List Value} {σ : am_I} {ρ : am_R} {g : am_J} {τ : am_T} {Q : am_Q} {x0 x1 x2 x3 x4 : Value} {p0 : Nat} {p1 : Int32} (ht : τ.1 p0 = 11) (hs : st.length ≤ 4) : AW (d + 1) 157 78 [x0, x1, x2, x3, x4] (.int p1 :: .ref p0 :: st) σ ρ g τ Q = AW d 158 0 [.ref p0, .int p1, am_jk] [] σ ρ g τ (fun r9 σ ρ g τ => AW (d + 1) 157 81 [x0, x1, x2, x3, x4] (r9.toList ++ st) σ ρ g τ Q) := aw_cv m157 d157_78 rfl m158 rfl rfl (by decide) en158 ok158 rfl ht hs
theorem d157_81 : decode cX11_taken 81 = .ok (.istore 4, 2) := by decide +kernel
theorem s157_81 {d : Nat} {st : List Value} {σ : am_I} {ρ : am_R} {g : am_J} {τ : am_T} {Q : am_Q} {x0 x1 x2 x4 : Value} {v : Int32} {u : Int32} : AW d 157 81 [x0, x1, x2, .int u, x4] (.int v :: st) σ ρ g τ Q = AW d 157 83 [x0, x1, x2, .int u, .int v] (st) σ ρ g τ Q := aw_lc m157 d157_81 rfl rfl rfl
theorem d157_83 : decode cX11_taken 83 = .ok (.iload 4, 2) := by decide +kernel
theorem s157_83 {d : Nat} {st : List Value} {σ : am_I} {ρ : am_R} {g : am_J} {τ : am_T} {Q : am_Q} {x0 x1 x2 x3 : Value} {v : Int32} : AW d 157 83 [x0, x1, x2, x3, .int v] (st) σ ρ g τ Q = AW d 157 85 [x0, x1, x2, x3, .int v] (.int v :: st) σ ρ g τ Q := aw_lc m157 d157_83 rfl rfl rfl
theorem d157_85 : decode cX11_taken 85 = .ok (.ifCond .ge 6, 3) := by decide +kernel
theorem s157_85 {d : Nat} {st : List Value} {σ : am_I} {ρ : am_R} {g : am_J} {τ : am_T} {Q : am_Q} {x0 x1 x2 x3 x4 : Value} {v : Int32} : AW d 157 85 [x0, x1, x2, x3, x4] (.int v :: st) σ ρ g τ Q = if 0 ≤ v then AW d 157 91 [x0, x1, x2, x3, x4] (st) σ ρ g τ Q else AW d 157 88 [x0, x1, x2, x3, x4] (st) σ ρ g τ Q := aw_br m157 d157_85 rfl rfl rfl
theorem d157_88 : decode cX11_taken 88 = .ok (.bipush (-11), 2) := by decide +kernel
theorem s157_88 {d : Nat} {st : List Value} {σ : am_I} {ρ : am_R} {g : am_J} {τ : am_T} {Q : am_Q} {x0 x1 x2 x3 x4 : Value} : AW d 157 88 [x0, x1, x2, x3, x4] (st) σ ρ g τ Q = AW d 157 90 [x0, x1, x2, x3, x4] (.int (-11) :: st) σ ρ g τ Q := aw_lc m157 d157_88 rfl rfl rfl
theorem d157_90 : decode cX11_taken 90 = .ok (.ireturn, 1) := by decide +kernel
theorem s157_90 {d : Nat} {σ : am_I} {ρ : am_R} {g : am_J} {τ : am_T} {Q : am_Q} {x0 x1 x2 x3 x4 : Value} {v : Int32} : AW d 157 90 [x0, x1, x2, x3, x4] ([.int v]) σ ρ g τ Q = Q (some (.int v)) σ ρ g τ := aw_ri m157 d157_90 rfl
theorem d157_91 : decode cX11_taken 91 = .ok (.iload_n 3, 1) := by decide +kernel
theorem s157_91 {d : Nat} {st : List Value} {σ : am_I} {ρ : am_R} {g : am_J} {τ : am_T} {Q : am_Q} {x0 x1 x2 x4 : Value} {v : Int32} : AW d 157 91 [x0, x1, x2, .int v, x4] (st) σ ρ g τ Q = AW d 157 92 [x0, x1, x2, .int v, x4] (.int v :: st) σ ρ g τ Q := aw_lc m157 d157_91 rfl rfl rfl
theorem d157_92 : decode cX11_taken 92 = .ok (.ifCond .eq 24, 3) := by decide +kernel
theorem s157_92 {d : Nat} {st : List Value} {σ : am_I} {ρ : am_R} {g : am_J} {τ : am_T} {Q : am_Q} {x0 x1 x2 x3 x4 : Value} {v : Int32} : AW d 157 92 [x0, x1, x2, x3, x4] (.int v :: st) σ ρ g τ Q = if v = 0 then AW d 157 116 [x0, x1, x2, x3, x4] (st) σ ρ g τ Q else AW d 157 95 [x0, x1, x2, x3, x4] (st) σ ρ g τ Q := aw_br m157 d157_92 rfl rfl rfl
theorem d157_95 : decode cX11_taken 95 = .ok (.iload 4, 2) := by decide +kernel
theorem s157_95 {d : Nat} {st : List Value} {σ : am_I} {ρ : am_R} {g : am_J} {τ : am_T} {Q : am_Q} {x0 x1 x2 x3 : Value} {v : Int32} : AW d 157 95 [x0, x1, x2, x3, .int v] (st) σ ρ g τ Q = AW d 157 97 [x0, x1, x2, x3, .int v] (.int v :: st) σ ρ g τ Q := aw_lc m157 d157_95 rfl rfl rfl
theorem d157_97 : decode cX11_taken 97 = .ok (.iload_n 2, 1) := by decide +kernel
theorem s157_97 {d : Nat} {st : List Value} {σ : am_I} {ρ : am_R} {g : am_J} {τ : am_T} {Q : am_Q} {x0 x1 x3 x4 : Value} {v : Int32} : AW d 157 97 [x0, x1, .int v, x3, x4] (st) σ ρ g τ Q = AW d 157 98 [x0, x1, .int v, x3, x4] (.int v :: st) σ ρ g τ Q := aw_lc m157 d157_97 rfl rfl rfl
theorem d157_98 : decode cX11_taken 98 = .ok (.invokestatic 442, 3) := by decide +kernel
theorem s157_98 {d : Nat} {st : List Value} {σ : am_I} {ρ : am_R} {g : am_J} {τ : am_T} {Q : am_Q} {x0 x1 x2 x3 x4 : Value} {p0 : Int32} {p1 : Int32} (hs : st.length ≤ 4) : AW (d + 1) 157 98 [x0, x1, x2, x3, x4] (.int p1 :: .int p0 :: st) σ ρ g τ Q = AW d 1 0 [.int p0, .int p1, am_jk, am_jk] [] σ ρ g τ (fun r9 σ ρ g τ => AW (d + 1) 157 101 [x0, x1, x2, x3, x4] (r9.toList ++ st) σ ρ g τ Q) := aw_cs m157 d157_98 rfl (by simp only [List.length_cons]; omega) rfl rfl en1 ok1 rfl hs
theorem d157_101 : decode cX11_taken 101 = .ok (.ifCond .eq 15, 3) := by decide +kernel
theorem s157_101 {d : Nat} {st : List Value} {σ : am_I} {ρ : am_R} {g : am_J} {τ : am_T} {Q : am_Q} {x0 x1 x2 x3 x4 : Value} {v : Int32} : AW d 157 101 [x0, x1, x2, x3, x4] (.int v :: st) σ ρ g τ Q = if v = 0 then AW d 157 116 [x0, x1, x2, x3, x4] (st) σ ρ g τ Q else AW d 157 104 [x0, x1, x2, x3, x4] (st) σ ρ g τ Q := aw_br m157 d157_101 rfl rfl rfl
theorem d157_104 : decode cX11_taken 104 = .ok (.aload_n 0, 1) := by decide +kernel
theorem s157_104 {d : Nat} {st : List Value} {σ : am_I} {ρ : am_R} {g : am_J} {τ : am_T} {Q : am_Q} {x1 x2 x3 x4 : Value} {v : Nat} : AW d 157 104 [.ref v, x1, x2, x3, x4] (st) σ ρ g τ Q = AW d 157 105 [.ref v, x1, x2, x3, x4] (.ref v :: st) σ ρ g τ Q := aw_lc m157 d157_104 rfl rfl rfl
theorem d157_105 : decode cX11_taken 105 = .ok (.getfield 56, 3) := by decide +kernel
theorem s157_105 {d : Nat} {st : List Value} {σ : am_I} {ρ : am_R} {g : am_J} {τ : am_T} {Q : am_Q} {x0 x1 x2 x3 x4 : Value} {a : Nat} (ht : τ.1 a = 11) : AW d 157 105 [x0, x1, x2, x3, x4] (.ref a :: st) σ ρ g τ Q = AW d 157 108 [x0, x1, x2, x3, x4] (va_rf (ρ a 7) :: st) σ ρ g τ Q := aw_gr m157 d157_105 rfl rfl rfl ht
theorem d157_108 : decode cX11_taken 108 = .ok (.getfield 436, 3) := by decide +kernel
theorem s157_108 {d : Nat} {st : List Value} {σ : am_I} {ρ : am_R} {g : am_J} {τ : am_T} {Q : am_Q} {x0 x1 x2 x3 x4 : Value} {a : Nat} (ht : τ.1 a = 2) : AW d 157 108 [x0, x1, x2, x3, x4] (.ref a :: st) σ ρ g τ Q = AW d 157 111 [x0, x1, x2, x3, x4] (va_rf (ρ a 4) :: st) σ ρ g τ Q := aw_gr m157 d157_108 rfl rfl rfl ht
theorem d157_111 : decode cX11_taken 111 = .ok (.iload_n 1, 1) := by decide +kernel
theorem s157_111 {d : Nat} {st : List Value} {σ : am_I} {ρ : am_R} {g : am_J} {τ : am_T} {Q : am_Q} {x0 x2 x3 x4 : Value} {v : Int32} : AW d 157 111 [x0, .int v, x2, x3, x4] (st) σ ρ g τ Q = AW d 157 112 [x0, .int v, x2, x3, x4] (.int v :: st) σ ρ g τ Q := aw_lc m157 d157_111 rfl rfl rfl
theorem d157_112 : decode cX11_taken 112 = .ok (.iaload, 1) := by decide +kernel
theorem s157_112 {d : Nat} {st : List Value} {σ : am_I} {ρ : am_R} {g : am_J} {τ : am_T} {Q : am_Q} {x0 x1 x2 x3 x4 : Value} {a : Nat} {j : Int32} (ht : τ.1 a = 15) (hj : am_inb j (τ.2.1 a) = true) : AW d 157 112 [x0, x1, x2, x3, x4] (.int j :: .ref a :: st) σ ρ g τ Q = AW d 157 113 [x0, x1, x2, x3, x4] (.int (σ a j.toNatClampNeg) :: st) σ ρ g τ Q := aw_ial m157 d157_112 rfl ht hj
theorem d157_113 : decode cX11_taken 113 = .ok (.goto 5, 3) := by decide +kernel
theorem s157_113 {d : Nat} {st : List Value} {σ : am_I} {ρ : am_R} {g : am_J} {τ : am_T} {Q : am_Q} {x0 x1 x2 x3 x4 : Value} : AW d 157 113 [x0, x1, x2, x3, x4] (st) σ ρ g τ Q = AW d 157 118 [x0, x1, x2, x3, x4] (st) σ ρ g τ Q := aw_lc m157 d157_113 rfl rfl rfl
theorem d157_116 : decode cX11_taken 116 = .ok (.bipush (-13), 2) := by decide +kernel
theorem s157_116 {d : Nat} {st : List Value} {σ : am_I} {ρ : am_R} {g : am_J} {τ : am_T} {Q : am_Q} {x0 x1 x2 x3 x4 : Value} : AW d 157 116 [x0, x1, x2, x3, x4] (st) σ ρ g τ Q = AW d 157 118 [x0, x1, x2, x3, x4] (.int (-13) :: st) σ ρ g τ Q := aw_lc m157 d157_116 rfl rfl rfl
theorem d157_118 : decode cX11_taken 118 = .ok (.ireturn, 1) := by decide +kernel
theorem s157_118 {d : Nat} {σ : am_I} {ρ : am_R} {g : am_J} {τ : am_T} {Q : am_Q} {x0 x1 x2 x3 x4 : Value} {v : Int32} : AW d 157 118 [x0, x1, x2, x3, x4] ([.int v]) σ ρ g τ Q = Q (some (.int v)) σ ρ g τ := aw_ri m157 d157_118 rfl
theorem d158_0 : decode cX11_kindOn 0 = .ok (.aload_n 0, 1) := by decide +kernel
theorem s158_0 {d : Nat} {st : List Value} {σ : am_I} {ρ : am_R} {g : am_J} {τ : am_T} {Q : am_Q} {x1 x2 : Value} {v : Nat} : AW d 158 0 [.ref v, x1, x2] (st) σ ρ g τ Q = AW d 158 1 [.ref v, x1, x2] (.ref v :: st) σ ρ g τ Q := aw_lc m158 d158_0 rfl rfl rfl
theorem d158_1 : decode cX11_kindOn 1 = .ok (.getfield 56, 3) := by decide +kernel
theorem s158_1 {d : Nat} {st : List Value} {σ : am_I} {ρ : am_R} {g : am_J} {τ : am_T} {Q : am_Q} {x0 x1 x2 : Value} {a : Nat} (ht : τ.1 a = 11) : AW d 158 1 [x0, x1, x2] (.ref a :: st) σ ρ g τ Q = AW d 158 4 [x0, x1, x2] (va_rf (ρ a 7) :: st) σ ρ g τ Q := aw_gr m158 d158_1 rfl rfl rfl ht
theorem d158_4 : decode cX11_kindOn 4 = .ok (.getfield 436, 3) := by decide +kernel
theorem s158_4 {d : Nat} {st : List Value} {σ : am_I} {ρ : am_R} {g : am_J} {τ : am_T} {Q : am_Q} {x0 x1 x2 : Value} {a : Nat} (ht : τ.1 a = 2) : AW d 158 4 [x0, x1, x2] (.ref a :: st) σ ρ g τ Q = AW d 158 7 [x0, x1, x2] (va_rf (ρ a 4) :: st) σ ρ g τ Q := aw_gr m158 d158_4 rfl rfl rfl ht
theorem d158_7 : decode cX11_kindOn 7 = .ok (.iload_n 1, 1) := by decide +kernel
theorem s158_7 {d : Nat} {st : List Value} {σ : am_I} {ρ : am_R} {g : am_J} {τ : am_T} {Q : am_Q} {x0 x2 : Value} {v : Int32} : AW d 158 7 [x0, .int v, x2] (st) σ ρ g τ Q = AW d 158 8 [x0, .int v, x2] (.int v :: st) σ ρ g τ Q := aw_lc m158 d158_7 rfl rfl rfl
theorem d158_8 : decode cX11_kindOn 8 = .ok (.iaload, 1) := by decide +kernel
theorem s158_8 {d : Nat} {st : List Value} {σ : am_I} {ρ : am_R} {g : am_J} {τ : am_T} {Q : am_Q} {x0 x1 x2 : Value} {a : Nat} {j : Int32} (ht : τ.1 a = 15) (hj : am_inb j (τ.2.1 a) = true) : AW d 158 8 [x0, x1, x2] (.int j :: .ref a :: st) σ ρ g τ Q = AW d 158 9 [x0, x1, x2] (.int (σ a j.toNatClampNeg) :: st) σ ρ g τ Q := aw_ial m158 d158_8 rfl ht hj
theorem d158_9 : decode cX11_kindOn 9 = .ok (.istore_n 2, 1) := by decide +kernel
theorem s158_9 {d : Nat} {st : List Value} {σ : am_I} {ρ : am_R} {g : am_J} {τ : am_T} {Q : am_Q} {x0 x2 : Value} {v : Int32} {u : Int32} : AW d 158 9 [x0, .int u, x2] (.int v :: st) σ ρ g τ Q = AW d 158 10 [x0, .int u, .int v] (st) σ ρ g τ Q := aw_lc m158 d158_9 rfl rfl rfl
theorem d158_10 : decode cX11_kindOn 10 = .ok (.aload_n 0, 1) := by decide +kernel
theorem s158_10 {d : Nat} {st : List Value} {σ : am_I} {ρ : am_R} {g : am_J} {τ : am_T} {Q : am_Q} {x1 x2 : Value} {v : Nat} : AW d 158 10 [.ref v, x1, x2] (st) σ ρ g τ Q = AW d 158 11 [.ref v, x1, x2] (.ref v :: st) σ ρ g τ Q := aw_lc m158 d158_10 rfl rfl rfl
theorem d158_11 : decode cX11_kindOn 11 = .ok (.getfield 56, 3) := by decide +kernel
theorem s158_11 {d : Nat} {st : List Value} {σ : am_I} {ρ : am_R} {g : am_J} {τ : am_T} {Q : am_Q} {x0 x1 x2 : Value} {a : Nat} (ht : τ.1 a = 11) : AW d 158 11 [x0, x1, x2] (.ref a :: st) σ ρ g τ Q = AW d 158 14 [x0, x1, x2] (va_rf (ρ a 7) :: st) σ ρ g τ Q := aw_gr m158 d158_11 rfl rfl rfl ht
theorem d158_14 : decode cX11_kindOn 14 = .ok (.getfield 430, 3) := by decide +kernel
theorem s158_14 {d : Nat} {st : List Value} {σ : am_I} {ρ : am_R} {g : am_J} {τ : am_T} {Q : am_Q} {x0 x1 x2 : Value} {a : Nat} (ht : τ.1 a = 2) : AW d 158 14 [x0, x1, x2] (.ref a :: st) σ ρ g τ Q = AW d 158 17 [x0, x1, x2] (va_rf (ρ a 3) :: st) σ ρ g τ Q := aw_gr m158 d158_14 rfl rfl rfl ht
theorem d158_17 : decode cX11_kindOn 17 = .ok (.iload_n 1, 1) := by decide +kernel
theorem s158_17 {d : Nat} {st : List Value} {σ : am_I} {ρ : am_R} {g : am_J} {τ : am_T} {Q : am_Q} {x0 x2 : Value} {v : Int32} : AW d 158 17 [x0, .int v, x2] (st) σ ρ g τ Q = AW d 158 18 [x0, .int v, x2] (.int v :: st) σ ρ g τ Q := aw_lc m158 d158_17 rfl rfl rfl
theorem d158_18 : decode cX11_kindOn 18 = .ok (.iaload, 1) := by decide +kernel
theorem s158_18 {d : Nat} {st : List Value} {σ : am_I} {ρ : am_R} {g : am_J} {τ : am_T} {Q : am_Q} {x0 x1 x2 : Value} {a : Nat} {j : Int32} (ht : τ.1 a = 15) (hj : am_inb j (τ.2.1 a) = true) : AW d 158 18 [x0, x1, x2] (.int j :: .ref a :: st) σ ρ g τ Q = AW d 158 19 [x0, x1, x2] (.int (σ a j.toNatClampNeg) :: st) σ ρ g τ Q := aw_ial m158 d158_18 rfl ht hj
theorem d158_19 : decode cX11_kindOn 19 = .ok (.ifCond .ne 27, 3) := by decide +kernel
theorem s158_19 {d : Nat} {st : List Value} {σ : am_I} {ρ : am_R} {g : am_J} {τ : am_T} {Q : am_Q} {x0 x1 x2 : Value} {v : Int32} : AW d 158 19 [x0, x1, x2] (.int v :: st) σ ρ g τ Q = if ¬ v = 0 then AW d 158 46 [x0, x1, x2] (st) σ ρ g τ Q else AW d 158 22 [x0, x1, x2] (st) σ ρ g τ Q := aw_br m158 d158_19 rfl rfl rfl
theorem d158_22 : decode cX11_kindOn 22 = .ok (.aload_n 0, 1) := by decide +kernel
theorem s158_22 {d : Nat} {st : List Value} {σ : am_I} {ρ : am_R} {g : am_J} {τ : am_T} {Q : am_Q} {x1 x2 : Value} {v : Nat} : AW d 158 22 [.ref v, x1, x2] (st) σ ρ g τ Q = AW d 158 23 [.ref v, x1, x2] (.ref v :: st) σ ρ g τ Q := aw_lc m158 d158_22 rfl rfl rfl
theorem d158_23 : decode cX11_kindOn 23 = .ok (.getfield 10, 3) := by decide +kernel
theorem s158_23 {d : Nat} {st : List Value} {σ : am_I} {ρ : am_R} {g : am_J} {τ : am_T} {Q : am_Q} {x0 x1 x2 : Value} {a : Nat} (ht : τ.1 a = 11) : AW d 158 23 [x0, x1, x2] (.ref a :: st) σ ρ g τ Q = AW d 158 26 [x0, x1, x2] (va_rf (ρ a 0) :: st) σ ρ g τ Q := aw_gr m158 d158_23 rfl rfl rfl ht
theorem d158_26 : decode cX11_kindOn 26 = .ok (.iload_n 2, 1) := by decide +kernel
theorem s158_26 {d : Nat} {st : List Value} {σ : am_I} {ρ : am_R} {g : am_J} {τ : am_T} {Q : am_Q} {x0 x1 : Value} {v : Int32} : AW d 158 26 [x0, x1, .int v] (st) σ ρ g τ Q = AW d 158 27 [x0, x1, .int v] (.int v :: st) σ ρ g τ Q := aw_lc m158 d158_26 rfl rfl rfl
theorem d158_27 : decode cX11_kindOn 27 = .ok (.invokevirtual 206, 3) := by decide +kernel
theorem s158_27 {d : Nat} {st : List Value} {σ : am_I} {ρ : am_R} {g : am_J} {τ : am_T} {Q : am_Q} {x0 x1 x2 : Value} {p0 : Nat} {p1 : Int32} (ht : τ.1 p0 = 3) (hs : st.length ≤ 4) : AW (d + 1) 158 27 [x0, x1, x2] (.int p1 :: .ref p0 :: st) σ ρ g τ Q = AW d 24 0 [.ref p0, .int p1] [] σ ρ g τ (fun r9 σ ρ g τ => AW (d + 1) 158 30 [x0, x1, x2] (r9.toList ++ st) σ ρ g τ Q) := aw_cv m158 d158_27 rfl m24 rfl rfl (by decide) en24 ok24 rfl ht hs
theorem d158_30 : decode cX11_kindOn 30 = .ok (.ifCond .eq 16, 3) := by decide +kernel
theorem s158_30 {d : Nat} {st : List Value} {σ : am_I} {ρ : am_R} {g : am_J} {τ : am_T} {Q : am_Q} {x0 x1 x2 : Value} {v : Int32} : AW d 158 30 [x0, x1, x2] (.int v :: st) σ ρ g τ Q = if v = 0 then AW d 158 46 [x0, x1, x2] (st) σ ρ g τ Q else AW d 158 33 [x0, x1, x2] (st) σ ρ g τ Q := aw_br m158 d158_30 rfl rfl rfl
theorem d158_33 : decode cX11_kindOn 33 = .ok (.aload_n 0, 1) := by decide +kernel
theorem s158_33 {d : Nat} {st : List Value} {σ : am_I} {ρ : am_R} {g : am_J} {τ : am_T} {Q : am_Q} {x1 x2 : Value} {v : Nat} : AW d 158 33 [.ref v, x1, x2] (st) σ ρ g τ Q = AW d 158 34 [.ref v, x1, x2] (.ref v :: st) σ ρ g τ Q := aw_lc m158 d158_33 rfl rfl rfl
theorem d158_34 : decode cX11_kindOn 34 = .ok (.getfield 10, 3) := by decide +kernel
theorem s158_34 {d : Nat} {st : List Value} {σ : am_I} {ρ : am_R} {g : am_J} {τ : am_T} {Q : am_Q} {x0 x1 x2 : Value} {a : Nat} (ht : τ.1 a = 11) : AW d 158 34 [x0, x1, x2] (.ref a :: st) σ ρ g τ Q = AW d 158 37 [x0, x1, x2] (va_rf (ρ a 0) :: st) σ ρ g τ Q := aw_gr m158 d158_34 rfl rfl rfl ht
theorem d158_37 : decode cX11_kindOn 37 = .ok (.getfield 209, 3) := by decide +kernel
theorem s158_37 {d : Nat} {st : List Value} {σ : am_I} {ρ : am_R} {g : am_J} {τ : am_T} {Q : am_Q} {x0 x1 x2 : Value} {a : Nat} (ht : τ.1 a = 3) : AW d 158 37 [x0, x1, x2] (.ref a :: st) σ ρ g τ Q = AW d 158 40 [x0, x1, x2] (va_rf (ρ a 7) :: st) σ ρ g τ Q := aw_gr m158 d158_37 rfl rfl rfl ht
theorem d158_40 : decode cX11_kindOn 40 = .ok (.iload_n 2, 1) := by decide +kernel
theorem s158_40 {d : Nat} {st : List Value} {σ : am_I} {ρ : am_R} {g : am_J} {τ : am_T} {Q : am_Q} {x0 x1 : Value} {v : Int32} : AW d 158 40 [x0, x1, .int v] (st) σ ρ g τ Q = AW d 158 41 [x0, x1, .int v] (.int v :: st) σ ρ g τ Q := aw_lc m158 d158_40 rfl rfl rfl
theorem d158_41 : decode cX11_kindOn 41 = .ok (.aaload, 1) := by decide +kernel
theorem s158_41 {d : Nat} {st : List Value} {σ : am_I} {ρ : am_R} {g : am_J} {τ : am_T} {Q : am_Q} {x0 x1 x2 : Value} {a : Nat} {j : Int32} (ht : 18 ≤ τ.1 a ∧ τ.1 a ≤ 22) (hj : am_inb j (τ.2.1 a) = true) : AW d 158 41 [x0, x1, x2] (.int j :: .ref a :: st) σ ρ g τ Q = AW d 158 42 [x0, x1, x2] (va_rf (ρ a j.toNatClampNeg) :: st) σ ρ g τ Q := aw_aal m158 d158_41 rfl ht hj
theorem d158_42 : decode cX11_kindOn 42 = .ok (.invokevirtual 446, 3) := by decide +kernel
theorem s158_42 {d : Nat} {st : List Value} {σ : am_I} {ρ : am_R} {g : am_J} {τ : am_T} {Q : am_Q} {x0 x1 x2 : Value} {p0 : Nat} (ht : τ.1 p0 = 1) (hs : st.length ≤ 4) : AW (d + 1) 158 42 [x0, x1, x2] (.ref p0 :: st) σ ρ g τ Q = AW d 13 0 [.ref p0] [] σ ρ g τ (fun r9 σ ρ g τ => AW (d + 1) 158 45 [x0, x1, x2] (r9.toList ++ st) σ ρ g τ Q) := aw_cv m158 d158_42 rfl m13 rfl rfl (by decide) en13 ok13 rfl ht hs
theorem d158_45 : decode cX11_kindOn 45 = .ok (.ireturn, 1) := by decide +kernel
theorem s158_45 {d : Nat} {σ : am_I} {ρ : am_R} {g : am_J} {τ : am_T} {Q : am_Q} {x0 x1 x2 : Value} {v : Int32} : AW d 158 45 [x0, x1, x2] ([.int v]) σ ρ g τ Q = Q (some (.int v)) σ ρ g τ := aw_ri m158 d158_45 rfl
theorem d158_46 : decode cX11_kindOn 46 = .ok (.aload_n 0, 1) := by decide +kernel
theorem s158_46 {d : Nat} {st : List Value} {σ : am_I} {ρ : am_R} {g : am_J} {τ : am_T} {Q : am_Q} {x1 x2 : Value} {v : Nat} : AW d 158 46 [.ref v, x1, x2] (st) σ ρ g τ Q = AW d 158 47 [.ref v, x1, x2] (.ref v :: st) σ ρ g τ Q := aw_lc m158 d158_46 rfl rfl rfl
theorem d158_47 : decode cX11_kindOn 47 = .ok (.getfield 56, 3) := by decide +kernel
theorem s158_47 {d : Nat} {st : List Value} {σ : am_I} {ρ : am_R} {g : am_J} {τ : am_T} {Q : am_Q} {x0 x1 x2 : Value} {a : Nat} (ht : τ.1 a = 11) : AW d 158 47 [x0, x1, x2] (.ref a :: st) σ ρ g τ Q = AW d 158 50 [x0, x1, x2] (va_rf (ρ a 7) :: st) σ ρ g τ Q := aw_gr m158 d158_47 rfl rfl rfl ht
theorem d158_50 : decode cX11_kindOn 50 = .ok (.getfield 430, 3) := by decide +kernel
theorem s158_50 {d : Nat} {st : List Value} {σ : am_I} {ρ : am_R} {g : am_J} {τ : am_T} {Q : am_Q} {x0 x1 x2 : Value} {a : Nat} (ht : τ.1 a = 2) : AW d 158 50 [x0, x1, x2] (.ref a :: st) σ ρ g τ Q = AW d 158 53 [x0, x1, x2] (va_rf (ρ a 3) :: st) σ ρ g τ Q := aw_gr m158 d158_50 rfl rfl rfl ht
theorem d158_53 : decode cX11_kindOn 53 = .ok (.iload_n 1, 1) := by decide +kernel
theorem s158_53 {d : Nat} {st : List Value} {σ : am_I} {ρ : am_R} {g : am_J} {τ : am_T} {Q : am_Q} {x0 x2 : Value} {v : Int32} : AW d 158 53 [x0, .int v, x2] (st) σ ρ g τ Q = AW d 158 54 [x0, .int v, x2] (.int v :: st) σ ρ g τ Q := aw_lc m158 d158_53 rfl rfl rfl
theorem d158_54 : decode cX11_kindOn 54 = .ok (.iaload, 1) := by decide +kernel
theorem s158_54 {d : Nat} {st : List Value} {σ : am_I} {ρ : am_R} {g : am_J} {τ : am_T} {Q : am_Q} {x0 x1 x2 : Value} {a : Nat} {j : Int32} (ht : τ.1 a = 15) (hj : am_inb j (τ.2.1 a) = true) : AW d 158 54 [x0, x1, x2] (.int j :: .ref a :: st) σ ρ g τ Q = AW d 158 55 [x0, x1, x2] (.int (σ a j.toNatClampNeg) :: st) σ ρ g τ Q := aw_ial m158 d158_54 rfl ht hj
theorem d158_55 : decode cX11_kindOn 55 = .ok (.iconst 1, 1) := by decide +kernel
theorem s158_55 {d : Nat} {st : List Value} {σ : am_I} {ρ : am_R} {g : am_J} {τ : am_T} {Q : am_Q} {x0 x1 x2 : Value} : AW d 158 55 [x0, x1, x2] (st) σ ρ g τ Q = AW d 158 56 [x0, x1, x2] (.int 1 :: st) σ ρ g τ Q := aw_lc m158 d158_55 rfl rfl rfl
theorem d158_56 : decode cX11_kindOn 56 = .ok (.if_icmp .ne 22, 3) := by decide +kernel
theorem s158_56 {d : Nat} {st : List Value} {σ : am_I} {ρ : am_R} {g : am_J} {τ : am_T} {Q : am_Q} {x0 x1 x2 : Value} {v w : Int32} : AW d 158 56 [x0, x1, x2] (.int w :: .int v :: st) σ ρ g τ Q = if ¬ v = w then AW d 158 78 [x0, x1, x2] (st) σ ρ g τ Q else AW d 158 59 [x0, x1, x2] (st) σ ρ g τ Q := aw_br m158 d158_56 rfl rfl rfl
theorem d158_59 : decode cX11_kindOn 59 = .ok (.aload_n 0, 1) := by decide +kernel
theorem s158_59 {d : Nat} {st : List Value} {σ : am_I} {ρ : am_R} {g : am_J} {τ : am_T} {Q : am_Q} {x1 x2 : Value} {v : Nat} : AW d 158 59 [.ref v, x1, x2] (st) σ ρ g τ Q = AW d 158 60 [.ref v, x1, x2] (.ref v :: st) σ ρ g τ Q := aw_lc m158 d158_59 rfl rfl rfl
theorem d158_60 : decode cX11_kindOn 60 = .ok (.getfield 10, 3) := by decide +kernel
theorem s158_60 {d : Nat} {st : List Value} {σ : am_I} {ρ : am_R} {g : am_J} {τ : am_T} {Q : am_Q} {x0 x1 x2 : Value} {a : Nat} (ht : τ.1 a = 11) : AW d 158 60 [x0, x1, x2] (.ref a :: st) σ ρ g τ Q = AW d 158 63 [x0, x1, x2] (va_rf (ρ a 0) :: st) σ ρ g τ Q := aw_gr m158 d158_60 rfl rfl rfl ht
theorem d158_63 : decode cX11_kindOn 63 = .ok (.getfield 352, 3) := by decide +kernel
theorem s158_63 {d : Nat} {st : List Value} {σ : am_I} {ρ : am_R} {g : am_J} {τ : am_T} {Q : am_Q} {x0 x1 x2 : Value} {a : Nat} (ht : τ.1 a = 3) : AW d 158 63 [x0, x1, x2] (.ref a :: st) σ ρ g τ Q = AW d 158 66 [x0, x1, x2] (va_rf (ρ a 13) :: st) σ ρ g τ Q := aw_gr m158 d158_63 rfl rfl rfl ht
theorem d158_66 : decode cX11_kindOn 66 = .ok (.iload_n 2, 1) := by decide +kernel
theorem s158_66 {d : Nat} {st : List Value} {σ : am_I} {ρ : am_R} {g : am_J} {τ : am_T} {Q : am_Q} {x0 x1 : Value} {v : Int32} : AW d 158 66 [x0, x1, .int v] (st) σ ρ g τ Q = AW d 158 67 [x0, x1, .int v] (.int v :: st) σ ρ g τ Q := aw_lc m158 d158_66 rfl rfl rfl
theorem d158_67 : decode cX11_kindOn 67 = .ok (.invokevirtual 336, 3) := by decide +kernel
theorem s158_67 {d : Nat} {st : List Value} {σ : am_I} {ρ : am_R} {g : am_J} {τ : am_T} {Q : am_Q} {x0 x1 x2 : Value} {p0 : Nat} {p1 : Int32} (ht : τ.1 p0 = 4) (hs : st.length ≤ 4) : AW (d + 1) 158 67 [x0, x1, x2] (.int p1 :: .ref p0 :: st) σ ρ g τ Q = AW d 44 0 [.ref p0, .int p1] [] σ ρ g τ (fun r9 σ ρ g τ => AW (d + 1) 158 70 [x0, x1, x2] (r9.toList ++ st) σ ρ g τ Q) := aw_cv m158 d158_67 rfl m44 rfl rfl (by decide) en44 ok44 rfl ht hs
theorem d158_70 : decode cX11_kindOn 70 = .ok (.ifCond .eq 8, 3) := by decide +kernel
theorem s158_70 {d : Nat} {st : List Value} {σ : am_I} {ρ : am_R} {g : am_J} {τ : am_T} {Q : am_Q} {x0 x1 x2 : Value} {v : Int32} : AW d 158 70 [x0, x1, x2] (.int v :: st) σ ρ g τ Q = if v = 0 then AW d 158 78 [x0, x1, x2] (st) σ ρ g τ Q else AW d 158 73 [x0, x1, x2] (st) σ ρ g τ Q := aw_br m158 d158_70 rfl rfl rfl
theorem d158_73 : decode cX11_kindOn 73 = .ok (.bipush 6, 2) := by decide +kernel
theorem s158_73 {d : Nat} {st : List Value} {σ : am_I} {ρ : am_R} {g : am_J} {τ : am_T} {Q : am_Q} {x0 x1 x2 : Value} : AW d 158 73 [x0, x1, x2] (st) σ ρ g τ Q = AW d 158 75 [x0, x1, x2] (.int 6 :: st) σ ρ g τ Q := aw_lc m158 d158_73 rfl rfl rfl
theorem d158_75 : decode cX11_kindOn 75 = .ok (.goto 4, 3) := by decide +kernel
theorem s158_75 {d : Nat} {st : List Value} {σ : am_I} {ρ : am_R} {g : am_J} {τ : am_T} {Q : am_Q} {x0 x1 x2 : Value} : AW d 158 75 [x0, x1, x2] (st) σ ρ g τ Q = AW d 158 79 [x0, x1, x2] (st) σ ρ g τ Q := aw_lc m158 d158_75 rfl rfl rfl
theorem d158_78 : decode cX11_kindOn 78 = .ok (.iconst (-1), 1) := by decide +kernel
theorem s158_78 {d : Nat} {st : List Value} {σ : am_I} {ρ : am_R} {g : am_J} {τ : am_T} {Q : am_Q} {x0 x1 x2 : Value} : AW d 158 78 [x0, x1, x2] (st) σ ρ g τ Q = AW d 158 79 [x0, x1, x2] (.int (-1) :: st) σ ρ g τ Q := aw_lc m158 d158_78 rfl rfl rfl
theorem d158_79 : decode cX11_kindOn 79 = .ok (.ireturn, 1) := by decide +kernel
theorem s158_79 {d : Nat} {σ : am_I} {ρ : am_R} {g : am_J} {τ : am_T} {Q : am_Q} {x0 x1 x2 : Value} {v : Int32} : AW d 158 79 [x0, x1, x2] ([.int v]) σ ρ g τ Q = Q (some (.int v)) σ ρ g τ := aw_ri m158 d158_79 rfl
theorem d159_0 : decode cX11_deal 0 = .ok (.aload_n 0, 1) := by decide +kernel
theorem s159_0 {d : Nat} {st : List Value} {σ : am_I} {ρ : am_R} {g : am_J} {τ : am_T} {Q : am_Q} {x1 x2 x3 x4 x5 : Value} {v : Nat} : AW d 159 0 [.ref v, x1, x2, x3, x4, x5] (st) σ ρ g τ Q = AW d 159 1 [.ref v, x1, x2, x3, x4, x5] (.ref v :: st) σ ρ g τ Q := aw_lc m159 d159_0 rfl rfl rfl
theorem d159_1 : decode cX11_deal 1 = .ok (.getfield 63, 3) := by decide +kernel
theorem s159_1 {d : Nat} {st : List Value} {σ : am_I} {ρ : am_R} {g : am_J} {τ : am_T} {Q : am_Q} {x0 x1 x2 x3 x4 x5 : Value} {a : Nat} (ht : τ.1 a = 11) : AW d 159 1 [x0, x1, x2, x3, x4, x5] (.ref a :: st) σ ρ g τ Q = AW d 159 4 [x0, x1, x2, x3, x4, x5] (va_rf (ρ a 8) :: st) σ ρ g τ Q := aw_gr m159 d159_1 rfl rfl rfl ht
theorem d159_4 : decode cX11_deal 4 = .ok (.iconst 0, 1) := by decide +kernel
theorem s159_4 {d : Nat} {st : List Value} {σ : am_I} {ρ : am_R} {g : am_J} {τ : am_T} {Q : am_Q} {x0 x1 x2 x3 x4 x5 : Value} : AW d 159 4 [x0, x1, x2, x3, x4, x5] (st) σ ρ g τ Q = AW d 159 5 [x0, x1, x2, x3, x4, x5] (.int 0 :: st) σ ρ g τ Q := aw_lc m159 d159_4 rfl rfl rfl
theorem d159_5 : decode cX11_deal 5 = .ok (.putfield 449, 3) := by decide +kernel
theorem s159_5 {d : Nat} {st : List Value} {σ : am_I} {ρ : am_R} {g : am_J} {τ : am_T} {Q : am_Q} {x0 x1 x2 x3 x4 x5 : Value} {a : Nat} {v : Int32} (ht : τ.1 a = 0) : AW d 159 5 [x0, x1, x2, x3, x4, x5] (.int v :: .ref a :: st) σ ρ g τ Q = AW d 159 8 [x0, x1, x2, x3, x4, x5] (st) (am_u σ a 6 v) ρ g τ Q := aw_pi m159 d159_5 rfl rfl (Or.inl rfl) rfl ht
theorem d159_8 : decode cX11_deal 8 = .ok (.iload_n 1, 1) := by decide +kernel
theorem s159_8 {d : Nat} {st : List Value} {σ : am_I} {ρ : am_R} {g : am_J} {τ : am_T} {Q : am_Q} {x0 x2 x3 x4 x5 : Value} {v : Int32} : AW d 159 8 [x0, .int v, x2, x3, x4, x5] (st) σ ρ g τ Q = AW d 159 9 [x0, .int v, x2, x3, x4, x5] (.int v :: st) σ ρ g τ Q := aw_lc m159 d159_8 rfl rfl rfl
theorem d159_9 : decode cX11_deal 9 = .ok (.invokestatic 421, 3) := by decide +kernel
theorem s159_9 {d : Nat} {st : List Value} {σ : am_I} {ρ : am_R} {g : am_J} {τ : am_T} {Q : am_Q} {x0 x1 x2 x3 x4 x5 : Value} {p0 : Int32} (hs : st.length ≤ 4) : AW (d + 1) 159 9 [x0, x1, x2, x3, x4, x5] (.int p0 :: st) σ ρ g τ Q = AW d 107 0 [.int p0] [] σ ρ g τ (fun r9 σ ρ g τ => AW (d + 1) 159 12 [x0, x1, x2, x3, x4, x5] (r9.toList ++ st) σ ρ g τ Q) := aw_cs m159 d159_9 rfl (by simp only [List.length_cons]; omega) rfl rfl en107 ok107 rfl hs
theorem d159_12 : decode cX11_deal 12 = .ok (.ifCond .eq 12, 3) := by decide +kernel
theorem s159_12 {d : Nat} {st : List Value} {σ : am_I} {ρ : am_R} {g : am_J} {τ : am_T} {Q : am_Q} {x0 x1 x2 x3 x4 x5 : Value} {v : Int32} : AW d 159 12 [x0, x1, x2, x3, x4, x5] (.int v :: st) σ ρ g τ Q = if v = 0 then AW d 159 24 [x0, x1, x2, x3, x4, x5] (st) σ ρ g τ Q else AW d 159 15 [x0, x1, x2, x3, x4, x5] (st) σ ρ g τ Q := aw_br m159 d159_12 rfl rfl rfl
theorem d159_15 : decode cX11_deal 15 = .ok (.iload_n 2, 1) := by decide +kernel
theorem s159_15 {d : Nat} {st : List Value} {σ : am_I} {ρ : am_R} {g : am_J} {τ : am_T} {Q : am_Q} {x0 x1 x3 x4 x5 : Value} {v : Int32} : AW d 159 15 [x0, x1, .int v, x3, x4, x5] (st) σ ρ g τ Q = AW d 159 16 [x0, x1, .int v, x3, x4, x5] (.int v :: st) σ ρ g τ Q := aw_lc m159 d159_15 rfl rfl rfl
theorem d159_16 : decode cX11_deal 16 = .ok (.iconst 0, 1) := by decide +kernel
theorem s159_16 {d : Nat} {st : List Value} {σ : am_I} {ρ : am_R} {g : am_J} {τ : am_T} {Q : am_Q} {x0 x1 x2 x3 x4 x5 : Value} : AW d 159 16 [x0, x1, x2, x3, x4, x5] (st) σ ρ g τ Q = AW d 159 17 [x0, x1, x2, x3, x4, x5] (.int 0 :: st) σ ρ g τ Q := aw_lc m159 d159_16 rfl rfl rfl
theorem d159_17 : decode cX11_deal 17 = .ok (.iconst 3, 1) := by decide +kernel
theorem s159_17 {d : Nat} {st : List Value} {σ : am_I} {ρ : am_R} {g : am_J} {τ : am_T} {Q : am_Q} {x0 x1 x2 x3 x4 x5 : Value} : AW d 159 17 [x0, x1, x2, x3, x4, x5] (st) σ ρ g τ Q = AW d 159 18 [x0, x1, x2, x3, x4, x5] (.int 3 :: st) σ ρ g τ Q := aw_lc m159 d159_17 rfl rfl rfl
theorem d159_18 : decode cX11_deal 18 = .ok (.invokestatic 74, 3) := by decide +kernel
theorem s159_18 {d : Nat} {st : List Value} {σ : am_I} {ρ : am_R} {g : am_J} {τ : am_T} {Q : am_Q} {x0 x1 x2 x3 x4 x5 : Value} {p0 : Int32} {p1 : Int32} {p2 : Int32} (hs : st.length ≤ 4) : AW (d + 1) 159 18 [x0, x1, x2, x3, x4, x5] (.int p2 :: .int p1 :: .int p0 :: st) σ ρ g τ Q = AW d 100 0 [.int p0, .int p1, .int p2] [] σ ρ g τ (fun r9 σ ρ g τ => AW (d + 1) 159 21 [x0, x1, x2, x3, x4, x5] (r9.toList ++ st) σ ρ g τ Q) := aw_cs m159 d159_18 rfl (by simp only [List.length_cons]; omega) rfl rfl en100 ok100 rfl hs
theorem d159_21 : decode cX11_deal 21 = .ok (.ifCond .ne 5, 3) := by decide +kernel
theorem s159_21 {d : Nat} {st : List Value} {σ : am_I} {ρ : am_R} {g : am_J} {τ : am_T} {Q : am_Q} {x0 x1 x2 x3 x4 x5 : Value} {v : Int32} : AW d 159 21 [x0, x1, x2, x3, x4, x5] (.int v :: st) σ ρ g τ Q = if ¬ v = 0 then AW d 159 26 [x0, x1, x2, x3, x4, x5] (st) σ ρ g τ Q else AW d 159 24 [x0, x1, x2, x3, x4, x5] (st) σ ρ g τ Q := aw_br m159 d159_21 rfl rfl rfl
theorem d159_24 : decode cX11_deal 24 = .ok (.iconst 0, 1) := by decide +kernel
theorem s159_24 {d : Nat} {st : List Value} {σ : am_I} {ρ : am_R} {g : am_J} {τ : am_T} {Q : am_Q} {x0 x1 x2 x3 x4 x5 : Value} : AW d 159 24 [x0, x1, x2, x3, x4, x5] (st) σ ρ g τ Q = AW d 159 25 [x0, x1, x2, x3, x4, x5] (.int 0 :: st) σ ρ g τ Q := aw_lc m159 d159_24 rfl rfl rfl
theorem d159_25 : decode cX11_deal 25 = .ok (.ireturn, 1) := by decide +kernel
theorem s159_25 {d : Nat} {σ : am_I} {ρ : am_R} {g : am_J} {τ : am_T} {Q : am_Q} {x0 x1 x2 x3 x4 x5 : Value} {v : Int32} : AW d 159 25 [x0, x1, x2, x3, x4, x5] ([.int v]) σ ρ g τ Q = Q (some (.int v)) σ ρ g τ := aw_ri m159 d159_25 rfl
theorem d159_26 : decode cX11_deal 26 = .ok (.aload_n 0, 1) := by decide +kernel
theorem s159_26 {d : Nat} {st : List Value} {σ : am_I} {ρ : am_R} {g : am_J} {τ : am_T} {Q : am_Q} {x1 x2 x3 x4 x5 : Value} {v : Nat} : AW d 159 26 [.ref v, x1, x2, x3, x4, x5] (st) σ ρ g τ Q = AW d 159 27 [.ref v, x1, x2, x3, x4, x5] (.ref v :: st) σ ρ g τ Q := aw_lc m159 d159_26 rfl rfl rfl
theorem d159_27 : decode cX11_deal 27 = .ok (.iload_n 1, 1) := by decide +kernel
theorem s159_27 {d : Nat} {st : List Value} {σ : am_I} {ρ : am_R} {g : am_J} {τ : am_T} {Q : am_Q} {x0 x2 x3 x4 x5 : Value} {v : Int32} : AW d 159 27 [x0, .int v, x2, x3, x4, x5] (st) σ ρ g τ Q = AW d 159 28 [x0, .int v, x2, x3, x4, x5] (.int v :: st) σ ρ g τ Q := aw_lc m159 d159_27 rfl rfl rfl
theorem d159_28 : decode cX11_deal 28 = .ok (.invokevirtual 439, 3) := by decide +kernel
theorem s159_28 {d : Nat} {st : List Value} {σ : am_I} {ρ : am_R} {g : am_J} {τ : am_T} {Q : am_Q} {x0 x1 x2 x3 x4 x5 : Value} {p0 : Nat} {p1 : Int32} (ht : τ.1 p0 = 11) (hs : st.length ≤ 4) : AW (d + 1) 159 28 [x0, x1, x2, x3, x4, x5] (.int p1 :: .ref p0 :: st) σ ρ g τ Q = AW d 158 0 [.ref p0, .int p1, am_jk] [] σ ρ g τ (fun r9 σ ρ g τ => AW (d + 1) 159 31 [x0, x1, x2, x3, x4, x5] (r9.toList ++ st) σ ρ g τ Q) := aw_cv m159 d159_28 rfl m158 rfl rfl (by decide) en158 ok158 rfl ht hs
theorem d159_31 : decode cX11_deal 31 = .ok (.istore 4, 2) := by decide +kernel
theorem s159_31 {d : Nat} {st : List Value} {σ : am_I} {ρ : am_R} {g : am_J} {τ : am_T} {Q : am_Q} {x0 x1 x2 x4 x5 : Value} {v : Int32} {u : Int32} : AW d 159 31 [x0, x1, x2, .int u, x4, x5] (.int v :: st) σ ρ g τ Q = AW d 159 33 [x0, x1, x2, .int u, .int v, x5] (st) σ ρ g τ Q := aw_lc m159 d159_31 rfl rfl rfl
theorem d159_33 : decode cX11_deal 33 = .ok (.iload 4, 2) := by decide +kernel
theorem s159_33 {d : Nat} {st : List Value} {σ : am_I} {ρ : am_R} {g : am_J} {τ : am_T} {Q : am_Q} {x0 x1 x2 x3 x5 : Value} {v : Int32} : AW d 159 33 [x0, x1, x2, x3, .int v, x5] (st) σ ρ g τ Q = AW d 159 35 [x0, x1, x2, x3, .int v, x5] (.int v :: st) σ ρ g τ Q := aw_lc m159 d159_33 rfl rfl rfl
theorem d159_35 : decode cX11_deal 35 = .ok (.ifCond .ge 5, 3) := by decide +kernel
theorem s159_35 {d : Nat} {st : List Value} {σ : am_I} {ρ : am_R} {g : am_J} {τ : am_T} {Q : am_Q} {x0 x1 x2 x3 x4 x5 : Value} {v : Int32} : AW d 159 35 [x0, x1, x2, x3, x4, x5] (.int v :: st) σ ρ g τ Q = if 0 ≤ v then AW d 159 40 [x0, x1, x2, x3, x4, x5] (st) σ ρ g τ Q else AW d 159 38 [x0, x1, x2, x3, x4, x5] (st) σ ρ g τ Q := aw_br m159 d159_35 rfl rfl rfl
theorem d159_38 : decode cX11_deal 38 = .ok (.iconst 0, 1) := by decide +kernel
theorem s159_38 {d : Nat} {st : List Value} {σ : am_I} {ρ : am_R} {g : am_J} {τ : am_T} {Q : am_Q} {x0 x1 x2 x3 x4 x5 : Value} : AW d 159 38 [x0, x1, x2, x3, x4, x5] (st) σ ρ g τ Q = AW d 159 39 [x0, x1, x2, x3, x4, x5] (.int 0 :: st) σ ρ g τ Q := aw_lc m159 d159_38 rfl rfl rfl
theorem d159_39 : decode cX11_deal 39 = .ok (.ireturn, 1) := by decide +kernel
theorem s159_39 {d : Nat} {σ : am_I} {ρ : am_R} {g : am_J} {τ : am_T} {Q : am_Q} {x0 x1 x2 x3 x4 x5 : Value} {v : Int32} : AW d 159 39 [x0, x1, x2, x3, x4, x5] ([.int v]) σ ρ g τ Q = Q (some (.int v)) σ ρ g τ := aw_ri m159 d159_39 rfl
theorem d159_40 : decode cX11_deal 40 = .ok (.aload_n 0, 1) := by decide +kernel
theorem s159_40 {d : Nat} {st : List Value} {σ : am_I} {ρ : am_R} {g : am_J} {τ : am_T} {Q : am_Q} {x1 x2 x3 x4 x5 : Value} {v : Nat} : AW d 159 40 [.ref v, x1, x2, x3, x4, x5] (st) σ ρ g τ Q = AW d 159 41 [.ref v, x1, x2, x3, x4, x5] (.ref v :: st) σ ρ g τ Q := aw_lc m159 d159_40 rfl rfl rfl
theorem d159_41 : decode cX11_deal 41 = .ok (.getfield 56, 3) := by decide +kernel
theorem s159_41 {d : Nat} {st : List Value} {σ : am_I} {ρ : am_R} {g : am_J} {τ : am_T} {Q : am_Q} {x0 x1 x2 x3 x4 x5 : Value} {a : Nat} (ht : τ.1 a = 11) : AW d 159 41 [x0, x1, x2, x3, x4, x5] (.ref a :: st) σ ρ g τ Q = AW d 159 44 [x0, x1, x2, x3, x4, x5] (va_rf (ρ a 7) :: st) σ ρ g τ Q := aw_gr m159 d159_41 rfl rfl rfl ht
theorem d159_44 : decode cX11_deal 44 = .ok (.getfield 436, 3) := by decide +kernel
theorem s159_44 {d : Nat} {st : List Value} {σ : am_I} {ρ : am_R} {g : am_J} {τ : am_T} {Q : am_Q} {x0 x1 x2 x3 x4 x5 : Value} {a : Nat} (ht : τ.1 a = 2) : AW d 159 44 [x0, x1, x2, x3, x4, x5] (.ref a :: st) σ ρ g τ Q = AW d 159 47 [x0, x1, x2, x3, x4, x5] (va_rf (ρ a 4) :: st) σ ρ g τ Q := aw_gr m159 d159_44 rfl rfl rfl ht
theorem d159_47 : decode cX11_deal 47 = .ok (.iload_n 1, 1) := by decide +kernel
theorem s159_47 {d : Nat} {st : List Value} {σ : am_I} {ρ : am_R} {g : am_J} {τ : am_T} {Q : am_Q} {x0 x2 x3 x4 x5 : Value} {v : Int32} : AW d 159 47 [x0, .int v, x2, x3, x4, x5] (st) σ ρ g τ Q = AW d 159 48 [x0, .int v, x2, x3, x4, x5] (.int v :: st) σ ρ g τ Q := aw_lc m159 d159_47 rfl rfl rfl
theorem d159_48 : decode cX11_deal 48 = .ok (.iaload, 1) := by decide +kernel
theorem s159_48 {d : Nat} {st : List Value} {σ : am_I} {ρ : am_R} {g : am_J} {τ : am_T} {Q : am_Q} {x0 x1 x2 x3 x4 x5 : Value} {a : Nat} {j : Int32} (ht : τ.1 a = 15) (hj : am_inb j (τ.2.1 a) = true) : AW d 159 48 [x0, x1, x2, x3, x4, x5] (.int j :: .ref a :: st) σ ρ g τ Q = AW d 159 49 [x0, x1, x2, x3, x4, x5] (.int (σ a j.toNatClampNeg) :: st) σ ρ g τ Q := aw_ial m159 d159_48 rfl ht hj
theorem d159_49 : decode cX11_deal 49 = .ok (.istore 5, 2) := by decide +kernel
theorem s159_49 {d : Nat} {st : List Value} {σ : am_I} {ρ : am_R} {g : am_J} {τ : am_T} {Q : am_Q} {x0 x1 x2 x3 x5 : Value} {v : Int32} {u : Int32} : AW d 159 49 [x0, x1, x2, x3, .int u, x5] (.int v :: st) σ ρ g τ Q = AW d 159 51 [x0, x1, x2, x3, .int u, .int v] (st) σ ρ g τ Q := aw_lc m159 d159_49 rfl rfl rfl
theorem d159_51 : decode cX11_deal 51 = .ok (.iload 4, 2) := by decide +kernel
theorem s159_51 {d : Nat} {st : List Value} {σ : am_I} {ρ : am_R} {g : am_J} {τ : am_T} {Q : am_Q} {x0 x1 x2 x3 x5 : Value} {v : Int32} : AW d 159 51 [x0, x1, x2, x3, .int v, x5] (st) σ ρ g τ Q = AW d 159 53 [x0, x1, x2, x3, .int v, x5] (.int v :: st) σ ρ g τ Q := aw_lc m159 d159_51 rfl rfl rfl
theorem d159_53 : decode cX11_deal 53 = .ok (.bipush 6, 2) := by decide +kernel
theorem s159_53 {d : Nat} {st : List Value} {σ : am_I} {ρ : am_R} {g : am_J} {τ : am_T} {Q : am_Q} {x0 x1 x2 x3 x4 x5 : Value} : AW d 159 53 [x0, x1, x2, x3, x4, x5] (st) σ ρ g τ Q = AW d 159 55 [x0, x1, x2, x3, x4, x5] (.int 6 :: st) σ ρ g τ Q := aw_lc m159 d159_53 rfl rfl rfl
theorem d159_55 : decode cX11_deal 55 = .ok (.if_icmp .ne 43, 3) := by decide +kernel
theorem s159_55 {d : Nat} {st : List Value} {σ : am_I} {ρ : am_R} {g : am_J} {τ : am_T} {Q : am_Q} {x0 x1 x2 x3 x4 x5 : Value} {v w : Int32} : AW d 159 55 [x0, x1, x2, x3, x4, x5] (.int w :: .int v :: st) σ ρ g τ Q = if ¬ v = w then AW d 159 98 [x0, x1, x2, x3, x4, x5] (st) σ ρ g τ Q else AW d 159 58 [x0, x1, x2, x3, x4, x5] (st) σ ρ g τ Q := aw_br m159 d159_55 rfl rfl rfl
theorem d159_58 : decode cX11_deal 58 = .ok (.aload_n 0, 1) := by decide +kernel
theorem s159_58 {d : Nat} {st : List Value} {σ : am_I} {ρ : am_R} {g : am_J} {τ : am_T} {Q : am_Q} {x1 x2 x3 x4 x5 : Value} {v : Nat} : AW d 159 58 [.ref v, x1, x2, x3, x4, x5] (st) σ ρ g τ Q = AW d 159 59 [.ref v, x1, x2, x3, x4, x5] (.ref v :: st) σ ρ g τ Q := aw_lc m159 d159_58 rfl rfl rfl
theorem d159_59 : decode cX11_deal 59 = .ok (.getfield 63, 3) := by decide +kernel
theorem s159_59 {d : Nat} {st : List Value} {σ : am_I} {ρ : am_R} {g : am_J} {τ : am_T} {Q : am_Q} {x0 x1 x2 x3 x4 x5 : Value} {a : Nat} (ht : τ.1 a = 11) : AW d 159 59 [x0, x1, x2, x3, x4, x5] (.ref a :: st) σ ρ g τ Q = AW d 159 62 [x0, x1, x2, x3, x4, x5] (va_rf (ρ a 8) :: st) σ ρ g τ Q := aw_gr m159 d159_59 rfl rfl rfl ht
theorem d159_62 : decode cX11_deal 62 = .ok (.iload 4, 2) := by decide +kernel
theorem s159_62 {d : Nat} {st : List Value} {σ : am_I} {ρ : am_R} {g : am_J} {τ : am_T} {Q : am_Q} {x0 x1 x2 x3 x5 : Value} {v : Int32} : AW d 159 62 [x0, x1, x2, x3, .int v, x5] (st) σ ρ g τ Q = AW d 159 64 [x0, x1, x2, x3, .int v, x5] (.int v :: st) σ ρ g τ Q := aw_lc m159 d159_62 rfl rfl rfl
theorem d159_64 : decode cX11_deal 64 = .ok (.iload 5, 2) := by decide +kernel
theorem s159_64 {d : Nat} {st : List Value} {σ : am_I} {ρ : am_R} {g : am_J} {τ : am_T} {Q : am_Q} {x0 x1 x2 x3 x4 : Value} {v : Int32} : AW d 159 64 [x0, x1, x2, x3, x4, .int v] (st) σ ρ g τ Q = AW d 159 66 [x0, x1, x2, x3, x4, .int v] (.int v :: st) σ ρ g τ Q := aw_lc m159 d159_64 rfl rfl rfl
theorem d159_66 : decode cX11_deal 66 = .ok (.aload_n 0, 1) := by decide +kernel
theorem s159_66 {d : Nat} {st : List Value} {σ : am_I} {ρ : am_R} {g : am_J} {τ : am_T} {Q : am_Q} {x1 x2 x3 x4 x5 : Value} {v : Nat} : AW d 159 66 [.ref v, x1, x2, x3, x4, x5] (st) σ ρ g τ Q = AW d 159 67 [.ref v, x1, x2, x3, x4, x5] (.ref v :: st) σ ρ g τ Q := aw_lc m159 d159_66 rfl rfl rfl
theorem d159_67 : decode cX11_deal 67 = .ok (.getfield 10, 3) := by decide +kernel
theorem s159_67 {d : Nat} {st : List Value} {σ : am_I} {ρ : am_R} {g : am_J} {τ : am_T} {Q : am_Q} {x0 x1 x2 x3 x4 x5 : Value} {a : Nat} (ht : τ.1 a = 11) : AW d 159 67 [x0, x1, x2, x3, x4, x5] (.ref a :: st) σ ρ g τ Q = AW d 159 70 [x0, x1, x2, x3, x4, x5] (va_rf (ρ a 0) :: st) σ ρ g τ Q := aw_gr m159 d159_67 rfl rfl rfl ht
theorem d159_70 : decode cX11_deal 70 = .ok (.getfield 352, 3) := by decide +kernel
theorem s159_70 {d : Nat} {st : List Value} {σ : am_I} {ρ : am_R} {g : am_J} {τ : am_T} {Q : am_Q} {x0 x1 x2 x3 x4 x5 : Value} {a : Nat} (ht : τ.1 a = 3) : AW d 159 70 [x0, x1, x2, x3, x4, x5] (.ref a :: st) σ ρ g τ Q = AW d 159 73 [x0, x1, x2, x3, x4, x5] (va_rf (ρ a 13) :: st) σ ρ g τ Q := aw_gr m159 d159_70 rfl rfl rfl ht
theorem d159_73 : decode cX11_deal 73 = .ok (.iload 5, 2) := by decide +kernel
theorem s159_73 {d : Nat} {st : List Value} {σ : am_I} {ρ : am_R} {g : am_J} {τ : am_T} {Q : am_Q} {x0 x1 x2 x3 x4 : Value} {v : Int32} : AW d 159 73 [x0, x1, x2, x3, x4, .int v] (st) σ ρ g τ Q = AW d 159 75 [x0, x1, x2, x3, x4, .int v] (.int v :: st) σ ρ g τ Q := aw_lc m159 d159_73 rfl rfl rfl
theorem d159_75 : decode cX11_deal 75 = .ok (.iconst 2, 1) := by decide +kernel
theorem s159_75 {d : Nat} {st : List Value} {σ : am_I} {ρ : am_R} {g : am_J} {τ : am_T} {Q : am_Q} {x0 x1 x2 x3 x4 x5 : Value} : AW d 159 75 [x0, x1, x2, x3, x4, x5] (st) σ ρ g τ Q = AW d 159 76 [x0, x1, x2, x3, x4, x5] (.int 2 :: st) σ ρ g τ Q := aw_lc m159 d159_75 rfl rfl rfl
theorem d159_76 : decode cX11_deal 76 = .ok (.invokevirtual 339, 3) := by decide +kernel
theorem s159_76 {d : Nat} {st : List Value} {σ : am_I} {ρ : am_R} {g : am_J} {τ : am_T} {Q : am_Q} {x0 x1 x2 x3 x4 x5 : Value} {p0 : Nat} {p1 : Int32} {p2 : Int32} (ht : τ.1 p0 = 4) (hs : st.length ≤ 4) : AW (d + 1) 159 76 [x0, x1, x2, x3, x4, x5] (.int p2 :: .int p1 :: .ref p0 :: st) σ ρ g τ Q = AW d 46 0 [.ref p0, .int p1, .int p2] [] σ ρ g τ (fun r9 σ ρ g τ => AW (d + 1) 159 79 [x0, x1, x2, x3, x4, x5] (r9.toList ++ st) σ ρ g τ Q) := aw_cv m159 d159_76 rfl m46 rfl rfl (by decide) en46 ok46 rfl ht hs
theorem d159_79 : decode cX11_deal 79 = .ok (.aload_n 0, 1) := by decide +kernel
theorem s159_79 {d : Nat} {st : List Value} {σ : am_I} {ρ : am_R} {g : am_J} {τ : am_T} {Q : am_Q} {x1 x2 x3 x4 x5 : Value} {v : Nat} : AW d 159 79 [.ref v, x1, x2, x3, x4, x5] (st) σ ρ g τ Q = AW d 159 80 [.ref v, x1, x2, x3, x4, x5] (.ref v :: st) σ ρ g τ Q := aw_lc m159 d159_79 rfl rfl rfl
theorem d159_80 : decode cX11_deal 80 = .ok (.getfield 10, 3) := by decide +kernel
theorem s159_80 {d : Nat} {st : List Value} {σ : am_I} {ρ : am_R} {g : am_J} {τ : am_T} {Q : am_Q} {x0 x1 x2 x3 x4 x5 : Value} {a : Nat} (ht : τ.1 a = 11) : AW d 159 80 [x0, x1, x2, x3, x4, x5] (.ref a :: st) σ ρ g τ Q = AW d 159 83 [x0, x1, x2, x3, x4, x5] (va_rf (ρ a 0) :: st) σ ρ g τ Q := aw_gr m159 d159_80 rfl rfl rfl ht
theorem d159_83 : decode cX11_deal 83 = .ok (.getfield 352, 3) := by decide +kernel
theorem s159_83 {d : Nat} {st : List Value} {σ : am_I} {ρ : am_R} {g : am_J} {τ : am_T} {Q : am_Q} {x0 x1 x2 x3 x4 x5 : Value} {a : Nat} (ht : τ.1 a = 3) : AW d 159 83 [x0, x1, x2, x3, x4, x5] (.ref a :: st) σ ρ g τ Q = AW d 159 86 [x0, x1, x2, x3, x4, x5] (va_rf (ρ a 13) :: st) σ ρ g τ Q := aw_gr m159 d159_83 rfl rfl rfl ht
theorem d159_86 : decode cX11_deal 86 = .ok (.iload 5, 2) := by decide +kernel
theorem s159_86 {d : Nat} {st : List Value} {σ : am_I} {ρ : am_R} {g : am_J} {τ : am_T} {Q : am_Q} {x0 x1 x2 x3 x4 : Value} {v : Int32} : AW d 159 86 [x0, x1, x2, x3, x4, .int v] (st) σ ρ g τ Q = AW d 159 88 [x0, x1, x2, x3, x4, .int v] (.int v :: st) σ ρ g τ Q := aw_lc m159 d159_86 rfl rfl rfl
theorem d159_88 : decode cX11_deal 88 = .ok (.iconst 1, 1) := by decide +kernel
theorem s159_88 {d : Nat} {st : List Value} {σ : am_I} {ρ : am_R} {g : am_J} {τ : am_T} {Q : am_Q} {x0 x1 x2 x3 x4 x5 : Value} : AW d 159 88 [x0, x1, x2, x3, x4, x5] (st) σ ρ g τ Q = AW d 159 89 [x0, x1, x2, x3, x4, x5] (.int 1 :: st) σ ρ g τ Q := aw_lc m159 d159_88 rfl rfl rfl
theorem d159_89 : decode cX11_deal 89 = .ok (.invokevirtual 339, 3) := by decide +kernel
theorem s159_89 {d : Nat} {st : List Value} {σ : am_I} {ρ : am_R} {g : am_J} {τ : am_T} {Q : am_Q} {x0 x1 x2 x3 x4 x5 : Value} {p0 : Nat} {p1 : Int32} {p2 : Int32} (ht : τ.1 p0 = 4) (hs : st.length ≤ 4) : AW (d + 1) 159 89 [x0, x1, x2, x3, x4, x5] (.int p2 :: .int p1 :: .ref p0 :: st) σ ρ g τ Q = AW d 46 0 [.ref p0, .int p1, .int p2] [] σ ρ g τ (fun r9 σ ρ g τ => AW (d + 1) 159 92 [x0, x1, x2, x3, x4, x5] (r9.toList ++ st) σ ρ g τ Q) := aw_cv m159 d159_89 rfl m46 rfl rfl (by decide) en46 ok46 rfl ht hs
theorem d159_92 : decode cX11_deal 92 = .ok (.invokevirtual 452, 3) := by decide +kernel
theorem s159_92 {d : Nat} {st : List Value} {σ : am_I} {ρ : am_R} {g : am_J} {τ : am_T} {Q : am_Q} {x0 x1 x2 x3 x4 x5 : Value} {p0 : Nat} {p1 : Int32} {p2 : Int32} {p3 : Int32} {p4 : Int32} (ht : τ.1 p0 = 0) (hs : st.length ≤ 4) : AW (d + 1) 159 92 [x0, x1, x2, x3, x4, x5] (.int p4 :: .int p3 :: .int p2 :: .int p1 :: .ref p0 :: st) σ ρ g τ Q = AW d 2 0 [.ref p0, .int p1, .int p2, .int p3, .int p4] [] σ ρ g τ (fun r9 σ ρ g τ => AW (d + 1) 159 95 [x0, x1, x2, x3, x4, x5] (r9.toList ++ st) σ ρ g τ Q) := aw_cv m159 d159_92 rfl m2 rfl rfl (by decide) en2 ok2 rfl ht hs
theorem d159_95 : decode cX11_deal 95 = .ok (.goto 40, 3) := by decide +kernel
theorem s159_95 {d : Nat} {st : List Value} {σ : am_I} {ρ : am_R} {g : am_J} {τ : am_T} {Q : am_Q} {x0 x1 x2 x3 x4 x5 : Value} : AW d 159 95 [x0, x1, x2, x3, x4, x5] (st) σ ρ g τ Q = AW d 159 135 [x0, x1, x2, x3, x4, x5] (st) σ ρ g τ Q := aw_lc m159 d159_95 rfl rfl rfl
theorem d159_98 : decode cX11_deal 98 = .ok (.aload_n 0, 1) := by decide +kernel
theorem s159_98 {d : Nat} {st : List Value} {σ : am_I} {ρ : am_R} {g : am_J} {τ : am_T} {Q : am_Q} {x1 x2 x3 x4 x5 : Value} {v : Nat} : AW d 159 98 [.ref v, x1, x2, x3, x4, x5] (st) σ ρ g τ Q = AW d 159 99 [.ref v, x1, x2, x3, x4, x5] (.ref v :: st) σ ρ g τ Q := aw_lc m159 d159_98 rfl rfl rfl
theorem d159_99 : decode cX11_deal 99 = .ok (.getfield 63, 3) := by decide +kernel
theorem s159_99 {d : Nat} {st : List Value} {σ : am_I} {ρ : am_R} {g : am_J} {τ : am_T} {Q : am_Q} {x0 x1 x2 x3 x4 x5 : Value} {a : Nat} (ht : τ.1 a = 11) : AW d 159 99 [x0, x1, x2, x3, x4, x5] (.ref a :: st) σ ρ g τ Q = AW d 159 102 [x0, x1, x2, x3, x4, x5] (va_rf (ρ a 8) :: st) σ ρ g τ Q := aw_gr m159 d159_99 rfl rfl rfl ht
theorem d159_102 : decode cX11_deal 102 = .ok (.iload 4, 2) := by decide +kernel
theorem s159_102 {d : Nat} {st : List Value} {σ : am_I} {ρ : am_R} {g : am_J} {τ : am_T} {Q : am_Q} {x0 x1 x2 x3 x5 : Value} {v : Int32} : AW d 159 102 [x0, x1, x2, x3, .int v, x5] (st) σ ρ g τ Q = AW d 159 104 [x0, x1, x2, x3, .int v, x5] (.int v :: st) σ ρ g τ Q := aw_lc m159 d159_102 rfl rfl rfl
theorem d159_104 : decode cX11_deal 104 = .ok (.iload 5, 2) := by decide +kernel
theorem s159_104 {d : Nat} {st : List Value} {σ : am_I} {ρ : am_R} {g : am_J} {τ : am_T} {Q : am_Q} {x0 x1 x2 x3 x4 : Value} {v : Int32} : AW d 159 104 [x0, x1, x2, x3, x4, .int v] (st) σ ρ g τ Q = AW d 159 106 [x0, x1, x2, x3, x4, .int v] (.int v :: st) σ ρ g τ Q := aw_lc m159 d159_104 rfl rfl rfl
theorem d159_106 : decode cX11_deal 106 = .ok (.aload_n 0, 1) := by decide +kernel
theorem s159_106 {d : Nat} {st : List Value} {σ : am_I} {ρ : am_R} {g : am_J} {τ : am_T} {Q : am_Q} {x1 x2 x3 x4 x5 : Value} {v : Nat} : AW d 159 106 [.ref v, x1, x2, x3, x4, x5] (st) σ ρ g τ Q = AW d 159 107 [.ref v, x1, x2, x3, x4, x5] (.ref v :: st) σ ρ g τ Q := aw_lc m159 d159_106 rfl rfl rfl
theorem d159_107 : decode cX11_deal 107 = .ok (.getfield 10, 3) := by decide +kernel
theorem s159_107 {d : Nat} {st : List Value} {σ : am_I} {ρ : am_R} {g : am_J} {τ : am_T} {Q : am_Q} {x0 x1 x2 x3 x4 x5 : Value} {a : Nat} (ht : τ.1 a = 11) : AW d 159 107 [x0, x1, x2, x3, x4, x5] (.ref a :: st) σ ρ g τ Q = AW d 159 110 [x0, x1, x2, x3, x4, x5] (va_rf (ρ a 0) :: st) σ ρ g τ Q := aw_gr m159 d159_107 rfl rfl rfl ht
theorem d159_110 : decode cX11_deal 110 = .ok (.getfield 209, 3) := by decide +kernel
theorem s159_110 {d : Nat} {st : List Value} {σ : am_I} {ρ : am_R} {g : am_J} {τ : am_T} {Q : am_Q} {x0 x1 x2 x3 x4 x5 : Value} {a : Nat} (ht : τ.1 a = 3) : AW d 159 110 [x0, x1, x2, x3, x4, x5] (.ref a :: st) σ ρ g τ Q = AW d 159 113 [x0, x1, x2, x3, x4, x5] (va_rf (ρ a 7) :: st) σ ρ g τ Q := aw_gr m159 d159_110 rfl rfl rfl ht
theorem d159_113 : decode cX11_deal 113 = .ok (.iload 5, 2) := by decide +kernel
theorem s159_113 {d : Nat} {st : List Value} {σ : am_I} {ρ : am_R} {g : am_J} {τ : am_T} {Q : am_Q} {x0 x1 x2 x3 x4 : Value} {v : Int32} : AW d 159 113 [x0, x1, x2, x3, x4, .int v] (st) σ ρ g τ Q = AW d 159 115 [x0, x1, x2, x3, x4, .int v] (.int v :: st) σ ρ g τ Q := aw_lc m159 d159_113 rfl rfl rfl
theorem d159_115 : decode cX11_deal 115 = .ok (.aaload, 1) := by decide +kernel
theorem s159_115 {d : Nat} {st : List Value} {σ : am_I} {ρ : am_R} {g : am_J} {τ : am_T} {Q : am_Q} {x0 x1 x2 x3 x4 x5 : Value} {a : Nat} {j : Int32} (ht : 18 ≤ τ.1 a ∧ τ.1 a ≤ 22) (hj : am_inb j (τ.2.1 a) = true) : AW d 159 115 [x0, x1, x2, x3, x4, x5] (.int j :: .ref a :: st) σ ρ g τ Q = AW d 159 116 [x0, x1, x2, x3, x4, x5] (va_rf (ρ a j.toNatClampNeg) :: st) σ ρ g τ Q := aw_aal m159 d159_115 rfl ht hj
theorem d159_116 : decode cX11_deal 116 = .ok (.getfield 222, 3) := by decide +kernel
theorem s159_116 {d : Nat} {st : List Value} {σ : am_I} {ρ : am_R} {g : am_J} {τ : am_T} {Q : am_Q} {x0 x1 x2 x3 x4 x5 : Value} {a : Nat} (ht : τ.1 a = 1) : AW d 159 116 [x0, x1, x2, x3, x4, x5] (.ref a :: st) σ ρ g τ Q = AW d 159 119 [x0, x1, x2, x3, x4, x5] (.int (σ a 0) :: st) σ ρ g τ Q := aw_gi m159 d159_116 rfl rfl rfl ht
theorem d159_119 : decode cX11_deal 119 = .ok (.aload_n 0, 1) := by decide +kernel
theorem s159_119 {d : Nat} {st : List Value} {σ : am_I} {ρ : am_R} {g : am_J} {τ : am_T} {Q : am_Q} {x1 x2 x3 x4 x5 : Value} {v : Nat} : AW d 159 119 [.ref v, x1, x2, x3, x4, x5] (st) σ ρ g τ Q = AW d 159 120 [.ref v, x1, x2, x3, x4, x5] (.ref v :: st) σ ρ g τ Q := aw_lc m159 d159_119 rfl rfl rfl
theorem d159_120 : decode cX11_deal 120 = .ok (.getfield 10, 3) := by decide +kernel
theorem s159_120 {d : Nat} {st : List Value} {σ : am_I} {ρ : am_R} {g : am_J} {τ : am_T} {Q : am_Q} {x0 x1 x2 x3 x4 x5 : Value} {a : Nat} (ht : τ.1 a = 11) : AW d 159 120 [x0, x1, x2, x3, x4, x5] (.ref a :: st) σ ρ g τ Q = AW d 159 123 [x0, x1, x2, x3, x4, x5] (va_rf (ρ a 0) :: st) σ ρ g τ Q := aw_gr m159 d159_120 rfl rfl rfl ht
theorem d159_123 : decode cX11_deal 123 = .ok (.getfield 209, 3) := by decide +kernel
theorem s159_123 {d : Nat} {st : List Value} {σ : am_I} {ρ : am_R} {g : am_J} {τ : am_T} {Q : am_Q} {x0 x1 x2 x3 x4 x5 : Value} {a : Nat} (ht : τ.1 a = 3) : AW d 159 123 [x0, x1, x2, x3, x4, x5] (.ref a :: st) σ ρ g τ Q = AW d 159 126 [x0, x1, x2, x3, x4, x5] (va_rf (ρ a 7) :: st) σ ρ g τ Q := aw_gr m159 d159_123 rfl rfl rfl ht
theorem d159_126 : decode cX11_deal 126 = .ok (.iload 5, 2) := by decide +kernel
theorem s159_126 {d : Nat} {st : List Value} {σ : am_I} {ρ : am_R} {g : am_J} {τ : am_T} {Q : am_Q} {x0 x1 x2 x3 x4 : Value} {v : Int32} : AW d 159 126 [x0, x1, x2, x3, x4, .int v] (st) σ ρ g τ Q = AW d 159 128 [x0, x1, x2, x3, x4, .int v] (.int v :: st) σ ρ g τ Q := aw_lc m159 d159_126 rfl rfl rfl
theorem d159_128 : decode cX11_deal 128 = .ok (.aaload, 1) := by decide +kernel
theorem s159_128 {d : Nat} {st : List Value} {σ : am_I} {ρ : am_R} {g : am_J} {τ : am_T} {Q : am_Q} {x0 x1 x2 x3 x4 x5 : Value} {a : Nat} {j : Int32} (ht : 18 ≤ τ.1 a ∧ τ.1 a ≤ 22) (hj : am_inb j (τ.2.1 a) = true) : AW d 159 128 [x0, x1, x2, x3, x4, x5] (.int j :: .ref a :: st) σ ρ g τ Q = AW d 159 129 [x0, x1, x2, x3, x4, x5] (va_rf (ρ a j.toNatClampNeg) :: st) σ ρ g τ Q := aw_aal m159 d159_128 rfl ht hj
theorem d159_129 : decode cX11_deal 129 = .ok (.getfield 228, 3) := by decide +kernel
theorem s159_129 {d : Nat} {st : List Value} {σ : am_I} {ρ : am_R} {g : am_J} {τ : am_T} {Q : am_Q} {x0 x1 x2 x3 x4 x5 : Value} {a : Nat} (ht : τ.1 a = 1) : AW d 159 129 [x0, x1, x2, x3, x4, x5] (.ref a :: st) σ ρ g τ Q = AW d 159 132 [x0, x1, x2, x3, x4, x5] (.int (σ a 3) :: st) σ ρ g τ Q := aw_gi m159 d159_129 rfl rfl rfl ht
theorem d159_132 : decode cX11_deal 132 = .ok (.invokevirtual 452, 3) := by decide +kernel
theorem s159_132 {d : Nat} {st : List Value} {σ : am_I} {ρ : am_R} {g : am_J} {τ : am_T} {Q : am_Q} {x0 x1 x2 x3 x4 x5 : Value} {p0 : Nat} {p1 : Int32} {p2 : Int32} {p3 : Int32} {p4 : Int32} (ht : τ.1 p0 = 0) (hs : st.length ≤ 4) : AW (d + 1) 159 132 [x0, x1, x2, x3, x4, x5] (.int p4 :: .int p3 :: .int p2 :: .int p1 :: .ref p0 :: st) σ ρ g τ Q = AW d 2 0 [.ref p0, .int p1, .int p2, .int p3, .int p4] [] σ ρ g τ (fun r9 σ ρ g τ => AW (d + 1) 159 135 [x0, x1, x2, x3, x4, x5] (r9.toList ++ st) σ ρ g τ Q) := aw_cv m159 d159_132 rfl m2 rfl rfl (by decide) en2 ok2 rfl ht hs
theorem d159_135 : decode cX11_deal 135 = .ok (.aload_n 0, 1) := by decide +kernel
theorem s159_135 {d : Nat} {st : List Value} {σ : am_I} {ρ : am_R} {g : am_J} {τ : am_T} {Q : am_Q} {x1 x2 x3 x4 x5 : Value} {v : Nat} : AW d 159 135 [.ref v, x1, x2, x3, x4, x5] (st) σ ρ g τ Q = AW d 159 136 [.ref v, x1, x2, x3, x4, x5] (.ref v :: st) σ ρ g τ Q := aw_lc m159 d159_135 rfl rfl rfl
theorem d159_136 : decode cX11_deal 136 = .ok (.getfield 63, 3) := by decide +kernel
theorem s159_136 {d : Nat} {st : List Value} {σ : am_I} {ρ : am_R} {g : am_J} {τ : am_T} {Q : am_Q} {x0 x1 x2 x3 x4 x5 : Value} {a : Nat} (ht : τ.1 a = 11) : AW d 159 136 [x0, x1, x2, x3, x4, x5] (.ref a :: st) σ ρ g τ Q = AW d 159 139 [x0, x1, x2, x3, x4, x5] (va_rf (ρ a 8) :: st) σ ρ g τ Q := aw_gr m159 d159_136 rfl rfl rfl ht
theorem d159_139 : decode cX11_deal 139 = .ok (.iload_n 2, 1) := by decide +kernel
theorem s159_139 {d : Nat} {st : List Value} {σ : am_I} {ρ : am_R} {g : am_J} {τ : am_T} {Q : am_Q} {x0 x1 x3 x4 x5 : Value} {v : Int32} : AW d 159 139 [x0, x1, .int v, x3, x4, x5] (st) σ ρ g τ Q = AW d 159 140 [x0, x1, .int v, x3, x4, x5] (.int v :: st) σ ρ g τ Q := aw_lc m159 d159_139 rfl rfl rfl
theorem d159_140 : decode cX11_deal 140 = .ok (.iload_n 3, 1) := by decide +kernel
theorem s159_140 {d : Nat} {st : List Value} {σ : am_I} {ρ : am_R} {g : am_J} {τ : am_T} {Q : am_Q} {x0 x1 x2 x4 x5 : Value} {v : Int32} : AW d 159 140 [x0, x1, x2, .int v, x4, x5] (st) σ ρ g τ Q = AW d 159 141 [x0, x1, x2, .int v, x4, x5] (.int v :: st) σ ρ g τ Q := aw_lc m159 d159_140 rfl rfl rfl
theorem d159_141 : decode cX11_deal 141 = .ok (.invokevirtual 456, 3) := by decide +kernel
theorem s159_141 {d : Nat} {st : List Value} {σ : am_I} {ρ : am_R} {g : am_J} {τ : am_T} {Q : am_Q} {x0 x1 x2 x3 x4 x5 : Value} {p0 : Nat} {p1 : Int32} {p2 : Int32} (ht : τ.1 p0 = 0) (hs : st.length ≤ 4) : AW (d + 1) 159 141 [x0, x1, x2, x3, x4, x5] (.int p2 :: .int p1 :: .ref p0 :: st) σ ρ g τ Q = AW d 3 0 [.ref p0, .int p1, .int p2, am_jk] [] σ ρ g τ (fun r9 σ ρ g τ => AW (d + 1) 159 144 [x0, x1, x2, x3, x4, x5] (r9.toList ++ st) σ ρ g τ Q) := aw_cv m159 d159_141 rfl m3 rfl rfl (by decide) en3 ok3 rfl ht hs
theorem d159_144 : decode cX11_deal 144 = .ok (.ireturn, 1) := by decide +kernel
theorem s159_144 {d : Nat} {σ : am_I} {ρ : am_R} {g : am_J} {τ : am_T} {Q : am_Q} {x0 x1 x2 x3 x4 x5 : Value} {v : Int32} : AW d 159 144 [x0, x1, x2, x3, x4, x5] ([.int v]) σ ρ g τ Q = Q (some (.int v)) σ ρ g τ := aw_ri m159 d159_144 rfl
theorem d160_0 : decode cX11_trace 0 = .ok (.iload_n 1, 1) := by decide +kernel
theorem s160_0 {d : Nat} {st : List Value} {σ : am_I} {ρ : am_R} {g : am_J} {τ : am_T} {Q : am_Q} {x0 : Value} {v : Int32} : AW d 160 0 [x0, .int v] (st) σ ρ g τ Q = AW d 160 1 [x0, .int v] (.int v :: st) σ ρ g τ Q := aw_lc m160 d160_0 rfl rfl rfl
theorem d160_1 : decode cX11_trace 1 = .ok (.iconst 0, 1) := by decide +kernel
theorem s160_1 {d : Nat} {st : List Value} {σ : am_I} {ρ : am_R} {g : am_J} {τ : am_T} {Q : am_Q} {x0 x1 : Value} : AW d 160 1 [x0, x1] (st) σ ρ g τ Q = AW d 160 2 [x0, x1] (.int 0 :: st) σ ρ g τ Q := aw_lc m160 d160_1 rfl rfl rfl
theorem d160_2 : decode cX11_trace 2 = .ok (.aload_n 0, 1) := by decide +kernel
theorem s160_2 {d : Nat} {st : List Value} {σ : am_I} {ρ : am_R} {g : am_J} {τ : am_T} {Q : am_Q} {x1 : Value} {v : Nat} : AW d 160 2 [.ref v, x1] (st) σ ρ g τ Q = AW d 160 3 [.ref v, x1] (.ref v :: st) σ ρ g τ Q := aw_lc m160 d160_2 rfl rfl rfl
theorem d160_3 : decode cX11_trace 3 = .ok (.getfield 63, 3) := by decide +kernel
theorem s160_3 {d : Nat} {st : List Value} {σ : am_I} {ρ : am_R} {g : am_J} {τ : am_T} {Q : am_Q} {x0 x1 : Value} {a : Nat} (ht : τ.1 a = 11) : AW d 160 3 [x0, x1] (.ref a :: st) σ ρ g τ Q = AW d 160 6 [x0, x1] (va_rf (ρ a 8) :: st) σ ρ g τ Q := aw_gr m160 d160_3 rfl rfl rfl ht
theorem d160_6 : decode cX11_trace 6 = .ok (.getfield 449, 3) := by decide +kernel
theorem s160_6 {d : Nat} {st : List Value} {σ : am_I} {ρ : am_R} {g : am_J} {τ : am_T} {Q : am_Q} {x0 x1 : Value} {a : Nat} (ht : τ.1 a = 0) : AW d 160 6 [x0, x1] (.ref a :: st) σ ρ g τ Q = AW d 160 9 [x0, x1] (.int (σ a 6) :: st) σ ρ g τ Q := aw_gi m160 d160_6 rfl rfl rfl ht
theorem d160_9 : decode cX11_trace 9 = .ok (.iconst 1, 1) := by decide +kernel
theorem s160_9 {d : Nat} {st : List Value} {σ : am_I} {ρ : am_R} {g : am_J} {τ : am_T} {Q : am_Q} {x0 x1 : Value} : AW d 160 9 [x0, x1] (st) σ ρ g τ Q = AW d 160 10 [x0, x1] (.int 1 :: st) σ ρ g τ Q := aw_lc m160 d160_9 rfl rfl rfl
theorem d160_10 : decode cX11_trace 10 = .ok (.isub, 1) := by decide +kernel
theorem s160_10 {d : Nat} {st : List Value} {σ : am_I} {ρ : am_R} {g : am_J} {τ : am_T} {Q : am_Q} {x0 x1 : Value} {v w : Int32} : AW d 160 10 [x0, x1] (.int w :: .int v :: st) σ ρ g τ Q = AW d 160 11 [x0, x1] (.int (v - w) :: st) σ ρ g τ Q := aw_lc m160 d160_10 rfl rfl rfl
theorem d160_11 : decode cX11_trace 11 = .ok (.invokestatic 74, 3) := by decide +kernel
theorem s160_11 {d : Nat} {st : List Value} {σ : am_I} {ρ : am_R} {g : am_J} {τ : am_T} {Q : am_Q} {x0 x1 : Value} {p0 : Int32} {p1 : Int32} {p2 : Int32} (hs : st.length ≤ 4) : AW (d + 1) 160 11 [x0, x1] (.int p2 :: .int p1 :: .int p0 :: st) σ ρ g τ Q = AW d 100 0 [.int p0, .int p1, .int p2] [] σ ρ g τ (fun r9 σ ρ g τ => AW (d + 1) 160 14 [x0, x1] (r9.toList ++ st) σ ρ g τ Q) := aw_cs m160 d160_11 rfl (by simp only [List.length_cons]; omega) rfl rfl en100 ok100 rfl hs
theorem d160_14 : decode cX11_trace 14 = .ok (.ifCond .eq 15, 3) := by decide +kernel
theorem s160_14 {d : Nat} {st : List Value} {σ : am_I} {ρ : am_R} {g : am_J} {τ : am_T} {Q : am_Q} {x0 x1 : Value} {v : Int32} : AW d 160 14 [x0, x1] (.int v :: st) σ ρ g τ Q = if v = 0 then AW d 160 29 [x0, x1] (st) σ ρ g τ Q else AW d 160 17 [x0, x1] (st) σ ρ g τ Q := aw_br m160 d160_14 rfl rfl rfl
theorem d160_17 : decode cX11_trace 17 = .ok (.aload_n 0, 1) := by decide +kernel
theorem s160_17 {d : Nat} {st : List Value} {σ : am_I} {ρ : am_R} {g : am_J} {τ : am_T} {Q : am_Q} {x1 : Value} {v : Nat} : AW d 160 17 [.ref v, x1] (st) σ ρ g τ Q = AW d 160 18 [.ref v, x1] (.ref v :: st) σ ρ g τ Q := aw_lc m160 d160_17 rfl rfl rfl
theorem d160_18 : decode cX11_trace 18 = .ok (.getfield 63, 3) := by decide +kernel
theorem s160_18 {d : Nat} {st : List Value} {σ : am_I} {ρ : am_R} {g : am_J} {τ : am_T} {Q : am_Q} {x0 x1 : Value} {a : Nat} (ht : τ.1 a = 11) : AW d 160 18 [x0, x1] (.ref a :: st) σ ρ g τ Q = AW d 160 21 [x0, x1] (va_rf (ρ a 8) :: st) σ ρ g τ Q := aw_gr m160 d160_18 rfl rfl rfl ht
theorem d160_21 : decode cX11_trace 21 = .ok (.getfield 459, 3) := by decide +kernel
theorem s160_21 {d : Nat} {st : List Value} {σ : am_I} {ρ : am_R} {g : am_J} {τ : am_T} {Q : am_Q} {x0 x1 : Value} {a : Nat} (ht : τ.1 a = 0) : AW d 160 21 [x0, x1] (.ref a :: st) σ ρ g τ Q = AW d 160 24 [x0, x1] (va_rf (ρ a 5) :: st) σ ρ g τ Q := aw_gr m160 d160_21 rfl rfl rfl ht
theorem d160_24 : decode cX11_trace 24 = .ok (.iload_n 1, 1) := by decide +kernel
theorem s160_24 {d : Nat} {st : List Value} {σ : am_I} {ρ : am_R} {g : am_J} {τ : am_T} {Q : am_Q} {x0 : Value} {v : Int32} : AW d 160 24 [x0, .int v] (st) σ ρ g τ Q = AW d 160 25 [x0, .int v] (.int v :: st) σ ρ g τ Q := aw_lc m160 d160_24 rfl rfl rfl
theorem d160_25 : decode cX11_trace 25 = .ok (.iaload, 1) := by decide +kernel
theorem s160_25 {d : Nat} {st : List Value} {σ : am_I} {ρ : am_R} {g : am_J} {τ : am_T} {Q : am_Q} {x0 x1 : Value} {a : Nat} {j : Int32} (ht : τ.1 a = 15) (hj : am_inb j (τ.2.1 a) = true) : AW d 160 25 [x0, x1] (.int j :: .ref a :: st) σ ρ g τ Q = AW d 160 26 [x0, x1] (.int (σ a j.toNatClampNeg) :: st) σ ρ g τ Q := aw_ial m160 d160_25 rfl ht hj
theorem d160_26 : decode cX11_trace 26 = .ok (.goto 5, 3) := by decide +kernel
theorem s160_26 {d : Nat} {st : List Value} {σ : am_I} {ρ : am_R} {g : am_J} {τ : am_T} {Q : am_Q} {x0 x1 : Value} : AW d 160 26 [x0, x1] (st) σ ρ g τ Q = AW d 160 31 [x0, x1] (st) σ ρ g τ Q := aw_lc m160 d160_26 rfl rfl rfl
theorem d160_29 : decode cX11_trace 29 = .ok (.bipush (-3), 2) := by decide +kernel
theorem s160_29 {d : Nat} {st : List Value} {σ : am_I} {ρ : am_R} {g : am_J} {τ : am_T} {Q : am_Q} {x0 x1 : Value} : AW d 160 29 [x0, x1] (st) σ ρ g τ Q = AW d 160 31 [x0, x1] (.int (-3) :: st) σ ρ g τ Q := aw_lc m160 d160_29 rfl rfl rfl
theorem d160_31 : decode cX11_trace 31 = .ok (.ireturn, 1) := by decide +kernel
theorem s160_31 {d : Nat} {σ : am_I} {ρ : am_R} {g : am_J} {τ : am_T} {Q : am_Q} {x0 x1 : Value} {v : Int32} : AW d 160 31 [x0, x1] ([.int v]) σ ρ g τ Q = Q (some (.int v)) σ ρ g τ := aw_ri m160 d160_31 rfl
theorem d161_0 : decode cX11_many 0 = .ok (.iload_n 1, 1) := by decide +kernel
theorem s161_0 {d : Nat} {st : List Value} {σ : am_I} {ρ : am_R} {g : am_J} {τ : am_T} {Q : am_Q} {x0 : Value} {v : Int32} : AW d 161 0 [x0, .int v] (st) σ ρ g τ Q = AW d 161 1 [x0, .int v] (.int v :: st) σ ρ g τ Q := aw_lc m161 d161_0 rfl rfl rfl
theorem d161_1 : decode cX11_many 1 = .ok (.tableswitch 207 0 14 #[75, 83, 91, 99, 107, 115, 123, 134, 145, 156, 167, 175, 183, 191, 199], 75) := by decide +kernel
theorem s161_1_0 {d : Nat} {st : List Value} {σ : am_I} {ρ : am_R} {g : am_J} {τ : am_T} {Q : am_Q} {x0 x1 : Value} : AW d 161 1 [x0, x1] (.int 0 :: st) σ ρ g τ Q = AW d 161 76 [x0, x1] (st) σ ρ g τ Q := aw_lc m161 d161_1 rfl rfl rfl
theorem s161_1_1 {d : Nat} {st : List Value} {σ : am_I} {ρ : am_R} {g : am_J} {τ : am_T} {Q : am_Q} {x0 x1 : Value} : AW d 161 1 [x0, x1] (.int 1 :: st) σ ρ g τ Q = AW d 161 84 [x0, x1] (st) σ ρ g τ Q := aw_lc m161 d161_1 rfl rfl rfl
theorem s161_1_2 {d : Nat} {st : List Value} {σ : am_I} {ρ : am_R} {g : am_J} {τ : am_T} {Q : am_Q} {x0 x1 : Value} : AW d 161 1 [x0, x1] (.int 2 :: st) σ ρ g τ Q = AW d 161 92 [x0, x1] (st) σ ρ g τ Q := aw_lc m161 d161_1 rfl rfl rfl
theorem s161_1_3 {d : Nat} {st : List Value} {σ : am_I} {ρ : am_R} {g : am_J} {τ : am_T} {Q : am_Q} {x0 x1 : Value} : AW d 161 1 [x0, x1] (.int 3 :: st) σ ρ g τ Q = AW d 161 100 [x0, x1] (st) σ ρ g τ Q := aw_lc m161 d161_1 rfl rfl rfl
theorem s161_1_4 {d : Nat} {st : List Value} {σ : am_I} {ρ : am_R} {g : am_J} {τ : am_T} {Q : am_Q} {x0 x1 : Value} : AW d 161 1 [x0, x1] (.int 4 :: st) σ ρ g τ Q = AW d 161 108 [x0, x1] (st) σ ρ g τ Q := aw_lc m161 d161_1 rfl rfl rfl
theorem s161_1_5 {d : Nat} {st : List Value} {σ : am_I} {ρ : am_R} {g : am_J} {τ : am_T} {Q : am_Q} {x0 x1 : Value} : AW d 161 1 [x0, x1] (.int 5 :: st) σ ρ g τ Q = AW d 161 116 [x0, x1] (st) σ ρ g τ Q := aw_lc m161 d161_1 rfl rfl rfl
theorem s161_1_6 {d : Nat} {st : List Value} {σ : am_I} {ρ : am_R} {g : am_J} {τ : am_T} {Q : am_Q} {x0 x1 : Value} : AW d 161 1 [x0, x1] (.int 6 :: st) σ ρ g τ Q = AW d 161 124 [x0, x1] (st) σ ρ g τ Q := aw_lc m161 d161_1 rfl rfl rfl
theorem s161_1_7 {d : Nat} {st : List Value} {σ : am_I} {ρ : am_R} {g : am_J} {τ : am_T} {Q : am_Q} {x0 x1 : Value} : AW d 161 1 [x0, x1] (.int 7 :: st) σ ρ g τ Q = AW d 161 135 [x0, x1] (st) σ ρ g τ Q := aw_lc m161 d161_1 rfl rfl rfl
theorem s161_1_8 {d : Nat} {st : List Value} {σ : am_I} {ρ : am_R} {g : am_J} {τ : am_T} {Q : am_Q} {x0 x1 : Value} : AW d 161 1 [x0, x1] (.int 8 :: st) σ ρ g τ Q = AW d 161 146 [x0, x1] (st) σ ρ g τ Q := aw_lc m161 d161_1 rfl rfl rfl
theorem s161_1_9 {d : Nat} {st : List Value} {σ : am_I} {ρ : am_R} {g : am_J} {τ : am_T} {Q : am_Q} {x0 x1 : Value} : AW d 161 1 [x0, x1] (.int 9 :: st) σ ρ g τ Q = AW d 161 157 [x0, x1] (st) σ ρ g τ Q := aw_lc m161 d161_1 rfl rfl rfl
theorem s161_1_10 {d : Nat} {st : List Value} {σ : am_I} {ρ : am_R} {g : am_J} {τ : am_T} {Q : am_Q} {x0 x1 : Value} : AW d 161 1 [x0, x1] (.int 10 :: st) σ ρ g τ Q = AW d 161 168 [x0, x1] (st) σ ρ g τ Q := aw_lc m161 d161_1 rfl rfl rfl
theorem s161_1_11 {d : Nat} {st : List Value} {σ : am_I} {ρ : am_R} {g : am_J} {τ : am_T} {Q : am_Q} {x0 x1 : Value} : AW d 161 1 [x0, x1] (.int 11 :: st) σ ρ g τ Q = AW d 161 176 [x0, x1] (st) σ ρ g τ Q := aw_lc m161 d161_1 rfl rfl rfl
theorem s161_1_12 {d : Nat} {st : List Value} {σ : am_I} {ρ : am_R} {g : am_J} {τ : am_T} {Q : am_Q} {x0 x1 : Value} : AW d 161 1 [x0, x1] (.int 12 :: st) σ ρ g τ Q = AW d 161 184 [x0, x1] (st) σ ρ g τ Q := aw_lc m161 d161_1 rfl rfl rfl
theorem s161_1_13 {d : Nat} {st : List Value} {σ : am_I} {ρ : am_R} {g : am_J} {τ : am_T} {Q : am_Q} {x0 x1 : Value} : AW d 161 1 [x0, x1] (.int 13 :: st) σ ρ g τ Q = AW d 161 192 [x0, x1] (st) σ ρ g τ Q := aw_lc m161 d161_1 rfl rfl rfl
theorem s161_1_14 {d : Nat} {st : List Value} {σ : am_I} {ρ : am_R} {g : am_J} {τ : am_T} {Q : am_Q} {x0 x1 : Value} : AW d 161 1 [x0, x1] (.int 14 :: st) σ ρ g τ Q = AW d 161 200 [x0, x1] (st) σ ρ g τ Q := aw_lc m161 d161_1 rfl rfl rfl
theorem s161_1_d {d : Nat} {st : List Value} {σ : am_I} {ρ : am_R} {g : am_J} {τ : am_T} {Q : am_Q} {x0 x1 : Value} {v : Int32} (h : v.toInt < 0 ∨ 14 < v.toInt) : AW d 161 1 [x0, x1] (.int v :: st) σ ρ g τ Q = AW d 161 208 [x0, x1] (st) σ ρ g τ Q := aw_lc m161 d161_1 rfl rfl (by simp only [am_lc]; rw [if_pos h]; rfl)
theorem d161_76 : decode cX11_many 76 = .ok (.aload_n 0, 1) := by decide +kernel
theorem s161_76 {d : Nat} {st : List Value} {σ : am_I} {ρ : am_R} {g : am_J} {τ : am_T} {Q : am_Q} {x1 : Value} {v : Nat} : AW d 161 76 [.ref v, x1] (st) σ ρ g τ Q = AW d 161 77 [.ref v, x1] (.ref v :: st) σ ρ g τ Q := aw_lc m161 d161_76 rfl rfl rfl
theorem d161_77 : decode cX11_many 77 = .ok (.getfield 10, 3) := by decide +kernel
theorem s161_77 {d : Nat} {st : List Value} {σ : am_I} {ρ : am_R} {g : am_J} {τ : am_T} {Q : am_Q} {x0 x1 : Value} {a : Nat} (ht : τ.1 a = 11) : AW d 161 77 [x0, x1] (.ref a :: st) σ ρ g τ Q = AW d 161 80 [x0, x1] (va_rf (ρ a 0) :: st) σ ρ g τ Q := aw_gr m161 d161_77 rfl rfl rfl ht
theorem d161_80 : decode cX11_many 80 = .ok (.getfield 78, 3) := by decide +kernel
theorem s161_80 {d : Nat} {st : List Value} {σ : am_I} {ρ : am_R} {g : am_J} {τ : am_T} {Q : am_Q} {x0 x1 : Value} {a : Nat} (ht : τ.1 a = 3) : AW d 161 80 [x0, x1] (.ref a :: st) σ ρ g τ Q = AW d 161 83 [x0, x1] (.int (σ a 0) :: st) σ ρ g τ Q := aw_gi m161 d161_80 rfl rfl rfl ht
theorem d161_83 : decode cX11_many 83 = .ok (.ireturn, 1) := by decide +kernel
theorem s161_83 {d : Nat} {σ : am_I} {ρ : am_R} {g : am_J} {τ : am_T} {Q : am_Q} {x0 x1 : Value} {v : Int32} : AW d 161 83 [x0, x1] ([.int v]) σ ρ g τ Q = Q (some (.int v)) σ ρ g τ := aw_ri m161 d161_83 rfl
theorem d161_84 : decode cX11_many 84 = .ok (.aload_n 0, 1) := by decide +kernel
theorem s161_84 {d : Nat} {st : List Value} {σ : am_I} {ρ : am_R} {g : am_J} {τ : am_T} {Q : am_Q} {x1 : Value} {v : Nat} : AW d 161 84 [.ref v, x1] (st) σ ρ g τ Q = AW d 161 85 [.ref v, x1] (.ref v :: st) σ ρ g τ Q := aw_lc m161 d161_84 rfl rfl rfl
theorem d161_85 : decode cX11_many 85 = .ok (.getfield 10, 3) := by decide +kernel
theorem s161_85 {d : Nat} {st : List Value} {σ : am_I} {ρ : am_R} {g : am_J} {τ : am_T} {Q : am_Q} {x0 x1 : Value} {a : Nat} (ht : τ.1 a = 11) : AW d 161 85 [x0, x1] (.ref a :: st) σ ρ g τ Q = AW d 161 88 [x0, x1] (va_rf (ρ a 0) :: st) σ ρ g τ Q := aw_gr m161 d161_85 rfl rfl rfl ht
theorem d161_88 : decode cX11_many 88 = .ok (.getfield 110, 3) := by decide +kernel
theorem s161_88 {d : Nat} {st : List Value} {σ : am_I} {ρ : am_R} {g : am_J} {τ : am_T} {Q : am_Q} {x0 x1 : Value} {a : Nat} (ht : τ.1 a = 3) : AW d 161 88 [x0, x1] (.ref a :: st) σ ρ g τ Q = AW d 161 91 [x0, x1] (.int (σ a 6) :: st) σ ρ g τ Q := aw_gi m161 d161_88 rfl rfl rfl ht
theorem d161_91 : decode cX11_many 91 = .ok (.ireturn, 1) := by decide +kernel
theorem s161_91 {d : Nat} {σ : am_I} {ρ : am_R} {g : am_J} {τ : am_T} {Q : am_Q} {x0 x1 : Value} {v : Int32} : AW d 161 91 [x0, x1] ([.int v]) σ ρ g τ Q = Q (some (.int v)) σ ρ g τ := aw_ri m161 d161_91 rfl
theorem d161_92 : decode cX11_many 92 = .ok (.aload_n 0, 1) := by decide +kernel
theorem s161_92 {d : Nat} {st : List Value} {σ : am_I} {ρ : am_R} {g : am_J} {τ : am_T} {Q : am_Q} {x1 : Value} {v : Nat} : AW d 161 92 [.ref v, x1] (st) σ ρ g τ Q = AW d 161 93 [.ref v, x1] (.ref v :: st) σ ρ g τ Q := aw_lc m161 d161_92 rfl rfl rfl
theorem d161_93 : decode cX11_many 93 = .ok (.getfield 10, 3) := by decide +kernel
theorem s161_93 {d : Nat} {st : List Value} {σ : am_I} {ρ : am_R} {g : am_J} {τ : am_T} {Q : am_Q} {x0 x1 : Value} {a : Nat} (ht : τ.1 a = 11) : AW d 161 93 [x0, x1] (.ref a :: st) σ ρ g τ Q = AW d 161 96 [x0, x1] (va_rf (ρ a 0) :: st) σ ρ g τ Q := aw_gr m161 d161_93 rfl rfl rfl ht
theorem d161_96 : decode cX11_many 96 = .ok (.invokevirtual 462, 3) := by decide +kernel
theorem s161_96 {d : Nat} {st : List Value} {σ : am_I} {ρ : am_R} {g : am_J} {τ : am_T} {Q : am_Q} {x0 x1 : Value} {p0 : Nat} (ht : τ.1 p0 = 3) (hs : st.length ≤ 4) : AW (d + 1) 161 96 [x0, x1] (.ref p0 :: st) σ ρ g τ Q = AW d 39 0 [.ref p0, am_jk, am_jk] [] σ ρ g τ (fun r9 σ ρ g τ => AW (d + 1) 161 99 [x0, x1] (r9.toList ++ st) σ ρ g τ Q) := aw_cv m161 d161_96 rfl m39 rfl rfl (by decide) en39 ok39 rfl ht hs
theorem d161_99 : decode cX11_many 99 = .ok (.ireturn, 1) := by decide +kernel
theorem s161_99 {d : Nat} {σ : am_I} {ρ : am_R} {g : am_J} {τ : am_T} {Q : am_Q} {x0 x1 : Value} {v : Int32} : AW d 161 99 [x0, x1] ([.int v]) σ ρ g τ Q = Q (some (.int v)) σ ρ g τ := aw_ri m161 d161_99 rfl
theorem d161_100 : decode cX11_many 100 = .ok (.aload_n 0, 1) := by decide +kernel
theorem s161_100 {d : Nat} {st : List Value} {σ : am_I} {ρ : am_R} {g : am_J} {τ : am_T} {Q : am_Q} {x1 : Value} {v : Nat} : AW d 161 100 [.ref v, x1] (st) σ ρ g τ Q = AW d 161 101 [.ref v, x1] (.ref v :: st) σ ρ g τ Q := aw_lc m161 d161_100 rfl rfl rfl
theorem d161_101 : decode cX11_many 101 = .ok (.getfield 10, 3) := by decide +kernel
theorem s161_101 {d : Nat} {st : List Value} {σ : am_I} {ρ : am_R} {g : am_J} {τ : am_T} {Q : am_Q} {x0 x1 : Value} {a : Nat} (ht : τ.1 a = 11) : AW d 161 101 [x0, x1] (.ref a :: st) σ ρ g τ Q = AW d 161 104 [x0, x1] (va_rf (ρ a 0) :: st) σ ρ g τ Q := aw_gr m161 d161_101 rfl rfl rfl ht
theorem d161_104 : decode cX11_many 104 = .ok (.getfield 199, 3) := by decide +kernel
theorem s161_104 {d : Nat} {st : List Value} {σ : am_I} {ρ : am_R} {g : am_J} {τ : am_T} {Q : am_Q} {x0 x1 : Value} {a : Nat} (ht : τ.1 a = 3) : AW d 161 104 [x0, x1] (.ref a :: st) σ ρ g τ Q = AW d 161 107 [x0, x1] (.int (σ a 8) :: st) σ ρ g τ Q := aw_gi m161 d161_104 rfl rfl rfl ht
theorem d161_107 : decode cX11_many 107 = .ok (.ireturn, 1) := by decide +kernel
theorem s161_107 {d : Nat} {σ : am_I} {ρ : am_R} {g : am_J} {τ : am_T} {Q : am_Q} {x0 x1 : Value} {v : Int32} : AW d 161 107 [x0, x1] ([.int v]) σ ρ g τ Q = Q (some (.int v)) σ ρ g τ := aw_ri m161 d161_107 rfl
theorem d161_108 : decode cX11_many 108 = .ok (.aload_n 0, 1) := by decide +kernel
theorem s161_108 {d : Nat} {st : List Value} {σ : am_I} {ρ : am_R} {g : am_J} {τ : am_T} {Q : am_Q} {x1 : Value} {v : Nat} : AW d 161 108 [.ref v, x1] (st) σ ρ g τ Q = AW d 161 109 [.ref v, x1] (.ref v :: st) σ ρ g τ Q := aw_lc m161 d161_108 rfl rfl rfl
theorem d161_109 : decode cX11_many 109 = .ok (.getfield 10, 3) := by decide +kernel
theorem s161_109 {d : Nat} {st : List Value} {σ : am_I} {ρ : am_R} {g : am_J} {τ : am_T} {Q : am_Q} {x0 x1 : Value} {a : Nat} (ht : τ.1 a = 11) : AW d 161 109 [x0, x1] (.ref a :: st) σ ρ g τ Q = AW d 161 112 [x0, x1] (va_rf (ρ a 0) :: st) σ ρ g τ Q := aw_gr m161 d161_109 rfl rfl rfl ht
theorem d161_112 : decode cX11_many 112 = .ok (.invokevirtual 465, 3) := by decide +kernel
theorem s161_112 {d : Nat} {st : List Value} {σ : am_I} {ρ : am_R} {g : am_J} {τ : am_T} {Q : am_Q} {x0 x1 : Value} {p0 : Nat} (ht : τ.1 p0 = 3) (hs : st.length ≤ 4) : AW (d + 1) 161 112 [x0, x1] (.ref p0 :: st) σ ρ g τ Q = AW d 40 0 [.ref p0, am_jk, am_jk] [] σ ρ g τ (fun r9 σ ρ g τ => AW (d + 1) 161 115 [x0, x1] (r9.toList ++ st) σ ρ g τ Q) := aw_cv m161 d161_112 rfl m40 rfl rfl (by decide) en40 ok40 rfl ht hs
theorem d161_115 : decode cX11_many 115 = .ok (.ireturn, 1) := by decide +kernel
theorem s161_115 {d : Nat} {σ : am_I} {ρ : am_R} {g : am_J} {τ : am_T} {Q : am_Q} {x0 x1 : Value} {v : Int32} : AW d 161 115 [x0, x1] ([.int v]) σ ρ g τ Q = Q (some (.int v)) σ ρ g τ := aw_ri m161 d161_115 rfl
theorem d161_116 : decode cX11_many 116 = .ok (.aload_n 0, 1) := by decide +kernel
theorem s161_116 {d : Nat} {st : List Value} {σ : am_I} {ρ : am_R} {g : am_J} {τ : am_T} {Q : am_Q} {x1 : Value} {v : Nat} : AW d 161 116 [.ref v, x1] (st) σ ρ g τ Q = AW d 161 117 [.ref v, x1] (.ref v :: st) σ ρ g τ Q := aw_lc m161 d161_116 rfl rfl rfl
theorem d161_117 : decode cX11_many 117 = .ok (.getfield 10, 3) := by decide +kernel
theorem s161_117 {d : Nat} {st : List Value} {σ : am_I} {ρ : am_R} {g : am_J} {τ : am_T} {Q : am_Q} {x0 x1 : Value} {a : Nat} (ht : τ.1 a = 11) : AW d 161 117 [x0, x1] (.ref a :: st) σ ρ g τ Q = AW d 161 120 [x0, x1] (va_rf (ρ a 0) :: st) σ ρ g τ Q := aw_gr m161 d161_117 rfl rfl rfl ht
theorem d161_120 : decode cX11_many 120 = .ok (.getfield 275, 3) := by decide +kernel
theorem s161_120 {d : Nat} {st : List Value} {σ : am_I} {ρ : am_R} {g : am_J} {τ : am_T} {Q : am_Q} {x0 x1 : Value} {a : Nat} (ht : τ.1 a = 3) : AW d 161 120 [x0, x1] (.ref a :: st) σ ρ g τ Q = AW d 161 123 [x0, x1] (.int (σ a 11) :: st) σ ρ g τ Q := aw_gi m161 d161_120 rfl rfl rfl ht
theorem d161_123 : decode cX11_many 123 = .ok (.ireturn, 1) := by decide +kernel
theorem s161_123 {d : Nat} {σ : am_I} {ρ : am_R} {g : am_J} {τ : am_T} {Q : am_Q} {x0 x1 : Value} {v : Int32} : AW d 161 123 [x0, x1] ([.int v]) σ ρ g τ Q = Q (some (.int v)) σ ρ g τ := aw_ri m161 d161_123 rfl
theorem d161_124 : decode cX11_many 124 = .ok (.aload_n 0, 1) := by decide +kernel
theorem s161_124 {d : Nat} {st : List Value} {σ : am_I} {ρ : am_R} {g : am_J} {τ : am_T} {Q : am_Q} {x1 : Value} {v : Nat} : AW d 161 124 [.ref v, x1] (st) σ ρ g τ Q = AW d 161 125 [.ref v, x1] (.ref v :: st) σ ρ g τ Q := aw_lc m161 d161_124 rfl rfl rfl
theorem d161_125 : decode cX11_many 125 = .ok (.getfield 10, 3) := by decide +kernel
theorem s161_125 {d : Nat} {st : List Value} {σ : am_I} {ρ : am_R} {g : am_J} {τ : am_T} {Q : am_Q} {x0 x1 : Value} {a : Nat} (ht : τ.1 a = 11) : AW d 161 125 [x0, x1] (.ref a :: st) σ ρ g τ Q = AW d 161 128 [x0, x1] (va_rf (ρ a 0) :: st) σ ρ g τ Q := aw_gr m161 d161_125 rfl rfl rfl ht
theorem d161_128 : decode cX11_many 128 = .ok (.getfield 323, 3) := by decide +kernel
theorem s161_128 {d : Nat} {st : List Value} {σ : am_I} {ρ : am_R} {g : am_J} {τ : am_T} {Q : am_Q} {x0 x1 : Value} {a : Nat} (ht : τ.1 a = 3) : AW d 161 128 [x0, x1] (.ref a :: st) σ ρ g τ Q = AW d 161 131 [x0, x1] (va_rf (ρ a 12) :: st) σ ρ g τ Q := aw_gr m161 d161_128 rfl rfl rfl ht
theorem d161_131 : decode cX11_many 131 = .ok (.getfield 359, 3) := by decide +kernel
theorem s161_131 {d : Nat} {st : List Value} {σ : am_I} {ρ : am_R} {g : am_J} {τ : am_T} {Q : am_Q} {x0 x1 : Value} {a : Nat} (ht : τ.1 a = 4) : AW d 161 131 [x0, x1] (.ref a :: st) σ ρ g τ Q = AW d 161 134 [x0, x1] (.int (σ a 3) :: st) σ ρ g τ Q := aw_gi m161 d161_131 rfl rfl rfl ht
theorem d161_134 : decode cX11_many 134 = .ok (.ireturn, 1) := by decide +kernel
theorem s161_134 {d : Nat} {σ : am_I} {ρ : am_R} {g : am_J} {τ : am_T} {Q : am_Q} {x0 x1 : Value} {v : Int32} : AW d 161 134 [x0, x1] ([.int v]) σ ρ g τ Q = Q (some (.int v)) σ ρ g τ := aw_ri m161 d161_134 rfl
theorem d161_135 : decode cX11_many 135 = .ok (.aload_n 0, 1) := by decide +kernel
theorem s161_135 {d : Nat} {st : List Value} {σ : am_I} {ρ : am_R} {g : am_J} {τ : am_T} {Q : am_Q} {x1 : Value} {v : Nat} : AW d 161 135 [.ref v, x1] (st) σ ρ g τ Q = AW d 161 136 [.ref v, x1] (.ref v :: st) σ ρ g τ Q := aw_lc m161 d161_135 rfl rfl rfl
theorem d161_136 : decode cX11_many 136 = .ok (.getfield 10, 3) := by decide +kernel
theorem s161_136 {d : Nat} {st : List Value} {σ : am_I} {ρ : am_R} {g : am_J} {τ : am_T} {Q : am_Q} {x0 x1 : Value} {a : Nat} (ht : τ.1 a = 11) : AW d 161 136 [x0, x1] (.ref a :: st) σ ρ g τ Q = AW d 161 139 [x0, x1] (va_rf (ρ a 0) :: st) σ ρ g τ Q := aw_gr m161 d161_136 rfl rfl rfl ht
theorem d161_139 : decode cX11_many 139 = .ok (.getfield 352, 3) := by decide +kernel
theorem s161_139 {d : Nat} {st : List Value} {σ : am_I} {ρ : am_R} {g : am_J} {τ : am_T} {Q : am_Q} {x0 x1 : Value} {a : Nat} (ht : τ.1 a = 3) : AW d 161 139 [x0, x1] (.ref a :: st) σ ρ g τ Q = AW d 161 142 [x0, x1] (va_rf (ρ a 13) :: st) σ ρ g τ Q := aw_gr m161 d161_139 rfl rfl rfl ht
theorem d161_142 : decode cX11_many 142 = .ok (.getfield 359, 3) := by decide +kernel
theorem s161_142 {d : Nat} {st : List Value} {σ : am_I} {ρ : am_R} {g : am_J} {τ : am_T} {Q : am_Q} {x0 x1 : Value} {a : Nat} (ht : τ.1 a = 4) : AW d 161 142 [x0, x1] (.ref a :: st) σ ρ g τ Q = AW d 161 145 [x0, x1] (.int (σ a 3) :: st) σ ρ g τ Q := aw_gi m161 d161_142 rfl rfl rfl ht
theorem d161_145 : decode cX11_many 145 = .ok (.ireturn, 1) := by decide +kernel
theorem s161_145 {d : Nat} {σ : am_I} {ρ : am_R} {g : am_J} {τ : am_T} {Q : am_Q} {x0 x1 : Value} {v : Int32} : AW d 161 145 [x0, x1] ([.int v]) σ ρ g τ Q = Q (some (.int v)) σ ρ g τ := aw_ri m161 d161_145 rfl
theorem d161_146 : decode cX11_many 146 = .ok (.aload_n 0, 1) := by decide +kernel
theorem s161_146 {d : Nat} {st : List Value} {σ : am_I} {ρ : am_R} {g : am_J} {τ : am_T} {Q : am_Q} {x1 : Value} {v : Nat} : AW d 161 146 [.ref v, x1] (st) σ ρ g τ Q = AW d 161 147 [.ref v, x1] (.ref v :: st) σ ρ g τ Q := aw_lc m161 d161_146 rfl rfl rfl
theorem d161_147 : decode cX11_many 147 = .ok (.getfield 10, 3) := by decide +kernel
theorem s161_147 {d : Nat} {st : List Value} {σ : am_I} {ρ : am_R} {g : am_J} {τ : am_T} {Q : am_Q} {x0 x1 : Value} {a : Nat} (ht : τ.1 a = 11) : AW d 161 147 [x0, x1] (.ref a :: st) σ ρ g τ Q = AW d 161 150 [x0, x1] (va_rf (ρ a 0) :: st) σ ρ g τ Q := aw_gr m161 d161_147 rfl rfl rfl ht
theorem d161_150 : decode cX11_many 150 = .ok (.getfield 378, 3) := by decide +kernel
theorem s161_150 {d : Nat} {st : List Value} {σ : am_I} {ρ : am_R} {g : am_J} {τ : am_T} {Q : am_Q} {x0 x1 : Value} {a : Nat} (ht : τ.1 a = 3) : AW d 161 150 [x0, x1] (.ref a :: st) σ ρ g τ Q = AW d 161 153 [x0, x1] (va_rf (ρ a 14) :: st) σ ρ g τ Q := aw_gr m161 d161_150 rfl rfl rfl ht
theorem d161_153 : decode cX11_many 153 = .ok (.getfield 359, 3) := by decide +kernel
theorem s161_153 {d : Nat} {st : List Value} {σ : am_I} {ρ : am_R} {g : am_J} {τ : am_T} {Q : am_Q} {x0 x1 : Value} {a : Nat} (ht : τ.1 a = 4) : AW d 161 153 [x0, x1] (.ref a :: st) σ ρ g τ Q = AW d 161 156 [x0, x1] (.int (σ a 3) :: st) σ ρ g τ Q := aw_gi m161 d161_153 rfl rfl rfl ht
theorem d161_156 : decode cX11_many 156 = .ok (.ireturn, 1) := by decide +kernel
theorem s161_156 {d : Nat} {σ : am_I} {ρ : am_R} {g : am_J} {τ : am_T} {Q : am_Q} {x0 x1 : Value} {v : Int32} : AW d 161 156 [x0, x1] ([.int v]) σ ρ g τ Q = Q (some (.int v)) σ ρ g τ := aw_ri m161 d161_156 rfl
theorem d161_157 : decode cX11_many 157 = .ok (.aload_n 0, 1) := by decide +kernel
theorem s161_157 {d : Nat} {st : List Value} {σ : am_I} {ρ : am_R} {g : am_J} {τ : am_T} {Q : am_Q} {x1 : Value} {v : Nat} : AW d 161 157 [.ref v, x1] (st) σ ρ g τ Q = AW d 161 158 [.ref v, x1] (.ref v :: st) σ ρ g τ Q := aw_lc m161 d161_157 rfl rfl rfl
theorem d161_158 : decode cX11_many 158 = .ok (.getfield 10, 3) := by decide +kernel
theorem s161_158 {d : Nat} {st : List Value} {σ : am_I} {ρ : am_R} {g : am_J} {τ : am_T} {Q : am_Q} {x0 x1 : Value} {a : Nat} (ht : τ.1 a = 11) : AW d 161 158 [x0, x1] (.ref a :: st) σ ρ g τ Q = AW d 161 161 [x0, x1] (va_rf (ρ a 0) :: st) σ ρ g τ Q := aw_gr m161 d161_158 rfl rfl rfl ht
theorem d161_161 : decode cX11_many 161 = .ok (.getfield 387, 3) := by decide +kernel
theorem s161_161 {d : Nat} {st : List Value} {σ : am_I} {ρ : am_R} {g : am_J} {τ : am_T} {Q : am_Q} {x0 x1 : Value} {a : Nat} (ht : τ.1 a = 3) : AW d 161 161 [x0, x1] (.ref a :: st) σ ρ g τ Q = AW d 161 164 [x0, x1] (va_rf (ρ a 15) :: st) σ ρ g τ Q := aw_gr m161 d161_161 rfl rfl rfl ht
theorem d161_164 : decode cX11_many 164 = .ok (.getfield 359, 3) := by decide +kernel
theorem s161_164 {d : Nat} {st : List Value} {σ : am_I} {ρ : am_R} {g : am_J} {τ : am_T} {Q : am_Q} {x0 x1 : Value} {a : Nat} (ht : τ.1 a = 4) : AW d 161 164 [x0, x1] (.ref a :: st) σ ρ g τ Q = AW d 161 167 [x0, x1] (.int (σ a 3) :: st) σ ρ g τ Q := aw_gi m161 d161_164 rfl rfl rfl ht
theorem d161_167 : decode cX11_many 167 = .ok (.ireturn, 1) := by decide +kernel
theorem s161_167 {d : Nat} {σ : am_I} {ρ : am_R} {g : am_J} {τ : am_T} {Q : am_Q} {x0 x1 : Value} {v : Int32} : AW d 161 167 [x0, x1] ([.int v]) σ ρ g τ Q = Q (some (.int v)) σ ρ g τ := aw_ri m161 d161_167 rfl
theorem d161_168 : decode cX11_many 168 = .ok (.aload_n 0, 1) := by decide +kernel
theorem s161_168 {d : Nat} {st : List Value} {σ : am_I} {ρ : am_R} {g : am_J} {τ : am_T} {Q : am_Q} {x1 : Value} {v : Nat} : AW d 161 168 [.ref v, x1] (st) σ ρ g τ Q = AW d 161 169 [.ref v, x1] (.ref v :: st) σ ρ g τ Q := aw_lc m161 d161_168 rfl rfl rfl
theorem d161_169 : decode cX11_many 169 = .ok (.getfield 49, 3) := by decide +kernel
theorem s161_169 {d : Nat} {st : List Value} {σ : am_I} {ρ : am_R} {g : am_J} {τ : am_T} {Q : am_Q} {x0 x1 : Value} {a : Nat} (ht : τ.1 a = 11) : AW d 161 169 [x0, x1] (.ref a :: st) σ ρ g τ Q = AW d 161 172 [x0, x1] (va_rf (ρ a 6) :: st) σ ρ g τ Q := aw_gr m161 d161_169 rfl rfl rfl ht
theorem d161_172 : decode cX11_many 172 = .ok (.getfield 359, 3) := by decide +kernel
theorem s161_172 {d : Nat} {st : List Value} {σ : am_I} {ρ : am_R} {g : am_J} {τ : am_T} {Q : am_Q} {x0 x1 : Value} {a : Nat} (ht : τ.1 a = 4) : AW d 161 172 [x0, x1] (.ref a :: st) σ ρ g τ Q = AW d 161 175 [x0, x1] (.int (σ a 3) :: st) σ ρ g τ Q := aw_gi m161 d161_172 rfl rfl rfl ht
theorem d161_175 : decode cX11_many 175 = .ok (.ireturn, 1) := by decide +kernel
theorem s161_175 {d : Nat} {σ : am_I} {ρ : am_R} {g : am_J} {τ : am_T} {Q : am_Q} {x0 x1 : Value} {v : Int32} : AW d 161 175 [x0, x1] ([.int v]) σ ρ g τ Q = Q (some (.int v)) σ ρ g τ := aw_ri m161 d161_175 rfl
theorem d161_176 : decode cX11_many 176 = .ok (.aload_n 0, 1) := by decide +kernel
theorem s161_176 {d : Nat} {st : List Value} {σ : am_I} {ρ : am_R} {g : am_J} {τ : am_T} {Q : am_Q} {x1 : Value} {v : Nat} : AW d 161 176 [.ref v, x1] (st) σ ρ g τ Q = AW d 161 177 [.ref v, x1] (.ref v :: st) σ ρ g τ Q := aw_lc m161 d161_176 rfl rfl rfl
theorem d161_177 : decode cX11_many 177 = .ok (.getfield 10, 3) := by decide +kernel
theorem s161_177 {d : Nat} {st : List Value} {σ : am_I} {ρ : am_R} {g : am_J} {τ : am_T} {Q : am_Q} {x0 x1 : Value} {a : Nat} (ht : τ.1 a = 11) : AW d 161 177 [x0, x1] (.ref a :: st) σ ρ g τ Q = AW d 161 180 [x0, x1] (va_rf (ρ a 0) :: st) σ ρ g τ Q := aw_gr m161 d161_177 rfl rfl rfl ht
theorem d161_180 : decode cX11_many 180 = .ok (.getfield 468, 3) := by decide +kernel
theorem s161_180 {d : Nat} {st : List Value} {σ : am_I} {ρ : am_R} {g : am_J} {τ : am_T} {Q : am_Q} {x0 x1 : Value} {a : Nat} (ht : τ.1 a = 3) : AW d 161 180 [x0, x1] (.ref a :: st) σ ρ g τ Q = AW d 161 183 [x0, x1] (.int (σ a 1) :: st) σ ρ g τ Q := aw_gi m161 d161_180 rfl rfl rfl ht
theorem d161_183 : decode cX11_many 183 = .ok (.ireturn, 1) := by decide +kernel
theorem s161_183 {d : Nat} {σ : am_I} {ρ : am_R} {g : am_J} {τ : am_T} {Q : am_Q} {x0 x1 : Value} {v : Int32} : AW d 161 183 [x0, x1] ([.int v]) σ ρ g τ Q = Q (some (.int v)) σ ρ g τ := aw_ri m161 d161_183 rfl
theorem d161_184 : decode cX11_many 184 = .ok (.aload_n 0, 1) := by decide +kernel
theorem s161_184 {d : Nat} {st : List Value} {σ : am_I} {ρ : am_R} {g : am_J} {τ : am_T} {Q : am_Q} {x1 : Value} {v : Nat} : AW d 161 184 [.ref v, x1] (st) σ ρ g τ Q = AW d 161 185 [.ref v, x1] (.ref v :: st) σ ρ g τ Q := aw_lc m161 d161_184 rfl rfl rfl
theorem d161_185 : decode cX11_many 185 = .ok (.getfield 26, 3) := by decide +kernel
theorem s161_185 {d : Nat} {st : List Value} {σ : am_I} {ρ : am_R} {g : am_J} {τ : am_T} {Q : am_Q} {x0 x1 : Value} {a : Nat} (ht : τ.1 a = 11) : AW d 161 185 [x0, x1] (.ref a :: st) σ ρ g τ Q = AW d 161 188 [x0, x1] (va_rf (ρ a 3) :: st) σ ρ g τ Q := aw_gr m161 d161_185 rfl rfl rfl ht
theorem d161_188 : decode cX11_many 188 = .ok (.getfield 262, 3) := by decide +kernel
theorem s161_188 {d : Nat} {st : List Value} {σ : am_I} {ρ : am_R} {g : am_J} {τ : am_T} {Q : am_Q} {x0 x1 : Value} {a : Nat} (ht : τ.1 a = 10) : AW d 161 188 [x0, x1] (.ref a :: st) σ ρ g τ Q = AW d 161 191 [x0, x1] (.int (σ a 1) :: st) σ ρ g τ Q := aw_gi m161 d161_188 rfl rfl rfl ht
theorem d161_191 : decode cX11_many 191 = .ok (.ireturn, 1) := by decide +kernel
theorem s161_191 {d : Nat} {σ : am_I} {ρ : am_R} {g : am_J} {τ : am_T} {Q : am_Q} {x0 x1 : Value} {v : Int32} : AW d 161 191 [x0, x1] ([.int v]) σ ρ g τ Q = Q (some (.int v)) σ ρ g τ := aw_ri m161 d161_191 rfl
theorem d161_192 : decode cX11_many 192 = .ok (.aload_n 0, 1) := by decide +kernel
theorem s161_192 {d : Nat} {st : List Value} {σ : am_I} {ρ : am_R} {g : am_J} {τ : am_T} {Q : am_Q} {x1 : Value} {v : Nat} : AW d 161 192 [.ref v, x1] (st) σ ρ g τ Q = AW d 161 193 [.ref v, x1] (.ref v :: st) σ ρ g τ Q := aw_lc m161 d161_192 rfl rfl rfl
theorem d161_193 : decode cX11_many 193 = .ok (.getfield 63, 3) := by decide +kernel
theorem s161_193 {d : Nat} {st : List Value} {σ : am_I} {ρ : am_R} {g : am_J} {τ : am_T} {Q : am_Q} {x0 x1 : Value} {a : Nat} (ht : τ.1 a = 11) : AW d 161 193 [x0, x1] (.ref a :: st) σ ρ g τ Q = AW d 161 196 [x0, x1] (va_rf (ρ a 8) :: st) σ ρ g τ Q := aw_gr m161 d161_193 rfl rfl rfl ht
theorem d161_196 : decode cX11_many 196 = .ok (.getfield 449, 3) := by decide +kernel
theorem s161_196 {d : Nat} {st : List Value} {σ : am_I} {ρ : am_R} {g : am_J} {τ : am_T} {Q : am_Q} {x0 x1 : Value} {a : Nat} (ht : τ.1 a = 0) : AW d 161 196 [x0, x1] (.ref a :: st) σ ρ g τ Q = AW d 161 199 [x0, x1] (.int (σ a 6) :: st) σ ρ g τ Q := aw_gi m161 d161_196 rfl rfl rfl ht
theorem d161_199 : decode cX11_many 199 = .ok (.ireturn, 1) := by decide +kernel
theorem s161_199 {d : Nat} {σ : am_I} {ρ : am_R} {g : am_J} {τ : am_T} {Q : am_Q} {x0 x1 : Value} {v : Int32} : AW d 161 199 [x0, x1] ([.int v]) σ ρ g τ Q = Q (some (.int v)) σ ρ g τ := aw_ri m161 d161_199 rfl
theorem d161_200 : decode cX11_many 200 = .ok (.aload_n 0, 1) := by decide +kernel
theorem s161_200 {d : Nat} {st : List Value} {σ : am_I} {ρ : am_R} {g : am_J} {τ : am_T} {Q : am_Q} {x1 : Value} {v : Nat} : AW d 161 200 [.ref v, x1] (st) σ ρ g τ Q = AW d 161 201 [.ref v, x1] (.ref v :: st) σ ρ g τ Q := aw_lc m161 d161_200 rfl rfl rfl
theorem d161_201 : decode cX11_many 201 = .ok (.getfield 10, 3) := by decide +kernel
theorem s161_201 {d : Nat} {st : List Value} {σ : am_I} {ρ : am_R} {g : am_J} {τ : am_T} {Q : am_Q} {x0 x1 : Value} {a : Nat} (ht : τ.1 a = 11) : AW d 161 201 [x0, x1] (.ref a :: st) σ ρ g τ Q = AW d 161 204 [x0, x1] (va_rf (ρ a 0) :: st) σ ρ g τ Q := aw_gr m161 d161_201 rfl rfl rfl ht
theorem d161_204 : decode cX11_many 204 = .ok (.invokevirtual 471, 3) := by decide +kernel
theorem s161_204 {d : Nat} {st : List Value} {σ : am_I} {ρ : am_R} {g : am_J} {τ : am_T} {Q : am_Q} {x0 x1 : Value} {p0 : Nat} (ht : τ.1 p0 = 3) (hs : st.length ≤ 4) : AW (d + 1) 161 204 [x0, x1] (.ref p0 :: st) σ ρ g τ Q = AW d 41 0 [.ref p0, am_jk, am_jk] [] σ ρ g τ (fun r9 σ ρ g τ => AW (d + 1) 161 207 [x0, x1] (r9.toList ++ st) σ ρ g τ Q) := aw_cv m161 d161_204 rfl m41 rfl rfl (by decide) en41 ok41 rfl ht hs
theorem d161_207 : decode cX11_many 207 = .ok (.ireturn, 1) := by decide +kernel
theorem s161_207 {d : Nat} {σ : am_I} {ρ : am_R} {g : am_J} {τ : am_T} {Q : am_Q} {x0 x1 : Value} {v : Int32} : AW d 161 207 [x0, x1] ([.int v]) σ ρ g τ Q = Q (some (.int v)) σ ρ g τ := aw_ri m161 d161_207 rfl
theorem d161_208 : decode cX11_many 208 = .ok (.iconst (-1), 1) := by decide +kernel
theorem s161_208 {d : Nat} {st : List Value} {σ : am_I} {ρ : am_R} {g : am_J} {τ : am_T} {Q : am_Q} {x0 x1 : Value} : AW d 161 208 [x0, x1] (st) σ ρ g τ Q = AW d 161 209 [x0, x1] (.int (-1) :: st) σ ρ g τ Q := aw_lc m161 d161_208 rfl rfl rfl
theorem d161_209 : decode cX11_many 209 = .ok (.ireturn, 1) := by decide +kernel
theorem s161_209 {d : Nat} {σ : am_I} {ρ : am_R} {g : am_J} {τ : am_T} {Q : am_Q} {x0 x1 : Value} {v : Int32} : AW d 161 209 [x0, x1] ([.int v]) σ ρ g τ Q = Q (some (.int v)) σ ρ g τ := aw_ri m161 d161_209 rfl
theorem d162_0 : decode cX11_keep 0 = .ok (.aload_n 0, 1) := by decide +kernel
theorem s162_0 {d : Nat} {st : List Value} {σ : am_I} {ρ : am_R} {g : am_J} {τ : am_T} {Q : am_Q} {v : Nat} : AW d 162 0 [.ref v] (st) σ ρ g τ Q = AW d 162 1 [.ref v] (.ref v :: st) σ ρ g τ Q := aw_lc m162 d162_0 rfl rfl rfl
theorem d162_1 : decode cX11_keep 1 = .ok (.getfield 16, 3) := by decide +kernel
theorem s162_1 {d : Nat} {st : List Value} {σ : am_I} {ρ : am_R} {g : am_J} {τ : am_T} {Q : am_Q} {x0 : Value} {a : Nat} (ht : τ.1 a = 11) : AW d 162 1 [x0] (.ref a :: st) σ ρ g τ Q = AW d 162 4 [x0] (va_rf (ρ a 1) :: st) σ ρ g τ Q := aw_gr m162 d162_1 rfl rfl rfl ht
theorem d162_4 : decode cX11_keep 4 = .ok (.aload_n 0, 1) := by decide +kernel
theorem s162_4 {d : Nat} {st : List Value} {σ : am_I} {ρ : am_R} {g : am_J} {τ : am_T} {Q : am_Q} {v : Nat} : AW d 162 4 [.ref v] (st) σ ρ g τ Q = AW d 162 5 [.ref v] (.ref v :: st) σ ρ g τ Q := aw_lc m162 d162_4 rfl rfl rfl
theorem d162_5 : decode cX11_keep 5 = .ok (.getfield 10, 3) := by decide +kernel
theorem s162_5 {d : Nat} {st : List Value} {σ : am_I} {ρ : am_R} {g : am_J} {τ : am_T} {Q : am_Q} {x0 : Value} {a : Nat} (ht : τ.1 a = 11) : AW d 162 5 [x0] (.ref a :: st) σ ρ g τ Q = AW d 162 8 [x0] (va_rf (ρ a 0) :: st) σ ρ g τ Q := aw_gr m162 d162_5 rfl rfl rfl ht
theorem d162_8 : decode cX11_keep 8 = .ok (.invokevirtual 474, 3) := by decide +kernel
theorem s162_8 {d : Nat} {st : List Value} {σ : am_I} {ρ : am_R} {g : am_J} {τ : am_T} {Q : am_Q} {x0 : Value} {p0 : Nat} {p1 : Nat} (ht : τ.1 p0 = 3) (hs : st.length ≤ 4) : AW (d + 1) 162 8 [x0] (.ref p1 :: .ref p0 :: st) σ ρ g τ Q = AW d 22 0 [.ref p0, .ref p1, am_jk] [] σ ρ g τ (fun r9 σ ρ g τ => AW (d + 1) 162 11 [x0] (r9.toList ++ st) σ ρ g τ Q) := aw_cv m162 d162_8 rfl m22 rfl rfl (by decide) en22 ok22 rfl ht hs
theorem d162_11 : decode cX11_keep 11 = .ok (.aload_n 0, 1) := by decide +kernel
theorem s162_11 {d : Nat} {st : List Value} {σ : am_I} {ρ : am_R} {g : am_J} {τ : am_T} {Q : am_Q} {v : Nat} : AW d 162 11 [.ref v] (st) σ ρ g τ Q = AW d 162 12 [.ref v] (.ref v :: st) σ ρ g τ Q := aw_lc m162 d162_11 rfl rfl rfl
theorem d162_12 : decode cX11_keep 12 = .ok (.iconst 1, 1) := by decide +kernel
theorem s162_12 {d : Nat} {st : List Value} {σ : am_I} {ρ : am_R} {g : am_J} {τ : am_T} {Q : am_Q} {x0 : Value} : AW d 162 12 [x0] (st) σ ρ g τ Q = AW d 162 13 [x0] (.int 1 :: st) σ ρ g τ Q := aw_lc m162 d162_12 rfl rfl rfl
theorem d162_13 : decode cX11_keep 13 = .ok (.putfield 19, 3) := by decide +kernel
theorem s162_13 {d : Nat} {st : List Value} {σ : am_I} {ρ : am_R} {g : am_J} {τ : am_T} {Q : am_Q} {x0 : Value} {a : Nat} {v : Int32} (ht : τ.1 a = 11) (hv : am_b01 v = true) : AW d 162 13 [x0] (.int v :: .ref a :: st) σ ρ g τ Q = AW d 162 16 [x0] (st) (am_u σ a 2 v) ρ g τ Q := aw_pz m162 d162_13 rfl rfl (Or.inl rfl) rfl ht hv
theorem d162_16 : decode cX11_keep 16 = .ok (.iconst 1, 1) := by decide +kernel
theorem s162_16 {d : Nat} {st : List Value} {σ : am_I} {ρ : am_R} {g : am_J} {τ : am_T} {Q : am_Q} {x0 : Value} : AW d 162 16 [x0] (st) σ ρ g τ Q = AW d 162 17 [x0] (.int 1 :: st) σ ρ g τ Q := aw_lc m162 d162_16 rfl rfl rfl
theorem d162_17 : decode cX11_keep 17 = .ok (.ireturn, 1) := by decide +kernel
theorem s162_17 {d : Nat} {σ : am_I} {ρ : am_R} {g : am_J} {τ : am_T} {Q : am_Q} {x0 : Value} {v : Int32} : AW d 162 17 [x0] ([.int v]) σ ρ g τ Q = Q (some (.int v)) σ ρ g τ := aw_ri m162 d162_17 rfl
theorem d163_0 : decode cX11_again 0 = .ok (.aload_n 0, 1) := by decide +kernel
theorem s163_0 {d : Nat} {st : List Value} {σ : am_I} {ρ : am_R} {g : am_J} {τ : am_T} {Q : am_Q} {v : Nat} : AW d 163 0 [.ref v] (st) σ ρ g τ Q = AW d 163 1 [.ref v] (.ref v :: st) σ ρ g τ Q := aw_lc m163 d163_0 rfl rfl rfl
theorem d163_1 : decode cX11_again 1 = .ok (.getfield 19, 3) := by decide +kernel
theorem s163_1 {d : Nat} {st : List Value} {σ : am_I} {ρ : am_R} {g : am_J} {τ : am_T} {Q : am_Q} {x0 : Value} {a : Nat} (ht : τ.1 a = 11) : AW d 163 1 [x0] (.ref a :: st) σ ρ g τ Q = AW d 163 4 [x0] (.int (σ a 2) :: st) σ ρ g τ Q := aw_gi m163 d163_1 rfl rfl rfl ht
theorem d163_4 : decode cX11_again 4 = .ok (.ifCond .ne 6, 3) := by decide +kernel
theorem s163_4 {d : Nat} {st : List Value} {σ : am_I} {ρ : am_R} {g : am_J} {τ : am_T} {Q : am_Q} {x0 : Value} {v : Int32} : AW d 163 4 [x0] (.int v :: st) σ ρ g τ Q = if ¬ v = 0 then AW d 163 10 [x0] (st) σ ρ g τ Q else AW d 163 7 [x0] (st) σ ρ g τ Q := aw_br m163 d163_4 rfl rfl rfl
theorem d163_7 : decode cX11_again 7 = .ok (.bipush (-3), 2) := by decide +kernel
theorem s163_7 {d : Nat} {st : List Value} {σ : am_I} {ρ : am_R} {g : am_J} {τ : am_T} {Q : am_Q} {x0 : Value} : AW d 163 7 [x0] (st) σ ρ g τ Q = AW d 163 9 [x0] (.int (-3) :: st) σ ρ g τ Q := aw_lc m163 d163_7 rfl rfl rfl
theorem d163_9 : decode cX11_again 9 = .ok (.ireturn, 1) := by decide +kernel
theorem s163_9 {d : Nat} {σ : am_I} {ρ : am_R} {g : am_J} {τ : am_T} {Q : am_Q} {x0 : Value} {v : Int32} : AW d 163 9 [x0] ([.int v]) σ ρ g τ Q = Q (some (.int v)) σ ρ g τ := aw_ri m163 d163_9 rfl
theorem d163_10 : decode cX11_again 10 = .ok (.aload_n 0, 1) := by decide +kernel
theorem s163_10 {d : Nat} {st : List Value} {σ : am_I} {ρ : am_R} {g : am_J} {τ : am_T} {Q : am_Q} {v : Nat} : AW d 163 10 [.ref v] (st) σ ρ g τ Q = AW d 163 11 [.ref v] (.ref v :: st) σ ρ g τ Q := aw_lc m163 d163_10 rfl rfl rfl
theorem d163_11 : decode cX11_again 11 = .ok (.getfield 10, 3) := by decide +kernel
theorem s163_11 {d : Nat} {st : List Value} {σ : am_I} {ρ : am_R} {g : am_J} {τ : am_T} {Q : am_Q} {x0 : Value} {a : Nat} (ht : τ.1 a = 11) : AW d 163 11 [x0] (.ref a :: st) σ ρ g τ Q = AW d 163 14 [x0] (va_rf (ρ a 0) :: st) σ ρ g τ Q := aw_gr m163 d163_11 rfl rfl rfl ht
theorem d163_14 : decode cX11_again 14 = .ok (.aload_n 0, 1) := by decide +kernel
theorem s163_14 {d : Nat} {st : List Value} {σ : am_I} {ρ : am_R} {g : am_J} {τ : am_T} {Q : am_Q} {v : Nat} : AW d 163 14 [.ref v] (st) σ ρ g τ Q = AW d 163 15 [.ref v] (.ref v :: st) σ ρ g τ Q := aw_lc m163 d163_14 rfl rfl rfl
theorem d163_15 : decode cX11_again 15 = .ok (.getfield 16, 3) := by decide +kernel
theorem s163_15 {d : Nat} {st : List Value} {σ : am_I} {ρ : am_R} {g : am_J} {τ : am_T} {Q : am_Q} {x0 : Value} {a : Nat} (ht : τ.1 a = 11) : AW d 163 15 [x0] (.ref a :: st) σ ρ g τ Q = AW d 163 18 [x0] (va_rf (ρ a 1) :: st) σ ρ g τ Q := aw_gr m163 d163_15 rfl rfl rfl ht
theorem d163_18 : decode cX11_again 18 = .ok (.invokevirtual 474, 3) := by decide +kernel
theorem s163_18 {d : Nat} {st : List Value} {σ : am_I} {ρ : am_R} {g : am_J} {τ : am_T} {Q : am_Q} {x0 : Value} {p0 : Nat} {p1 : Nat} (ht : τ.1 p0 = 3) (hs : st.length ≤ 4) : AW (d + 1) 163 18 [x0] (.ref p1 :: .ref p0 :: st) σ ρ g τ Q = AW d 22 0 [.ref p0, .ref p1, am_jk] [] σ ρ g τ (fun r9 σ ρ g τ => AW (d + 1) 163 21 [x0] (r9.toList ++ st) σ ρ g τ Q) := aw_cv m163 d163_18 rfl m22 rfl rfl (by decide) en22 ok22 rfl ht hs
theorem d163_21 : decode cX11_again 21 = .ok (.iconst 1, 1) := by decide +kernel
theorem s163_21 {d : Nat} {st : List Value} {σ : am_I} {ρ : am_R} {g : am_J} {τ : am_T} {Q : am_Q} {x0 : Value} : AW d 163 21 [x0] (st) σ ρ g τ Q = AW d 163 22 [x0] (.int 1 :: st) σ ρ g τ Q := aw_lc m163 d163_21 rfl rfl rfl
theorem d163_22 : decode cX11_again 22 = .ok (.ireturn, 1) := by decide +kernel
theorem s163_22 {d : Nat} {σ : am_I} {ρ : am_R} {g : am_J} {τ : am_T} {Q : am_Q} {x0 : Value} {v : Int32} : AW d 163 22 [x0] ([.int v]) σ ρ g τ Q = Q (some (.int v)) σ ρ g τ := aw_ri m163 d163_22 rfl
