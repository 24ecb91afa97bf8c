/-! step rows: methods 279 to 279 -/
theorem d279_0 : decode cL_law 0 = .ok (.new 7, 3) := by decide +kernel
theorem s279_0 {d : Nat} {st : List Value} {σ : am_I} {ρ : am_R} {g : am_J} {τ : am_T} {Q : am_Q} {x0 x1 x2 x3 : Value} : AW d 279 0 [x0, x1, x2, x3] (st) σ ρ g τ Q = AW d 279 3 [x0, x1, x2, x3] (.ref τ.2.2.1 :: st) (am_new 11 11 σ ρ g τ).1 (am_new 11 11 σ ρ g τ).2.1 (am_new 11 11 σ ρ g τ).2.2.1 (am_new 11 11 σ ρ g τ).2.2.2 Q := aw_new m279 d279_0 rfl rfl (by decide)
theorem d279_3 : decode cL_law 3 = .ok (.dup, 1) := by decide +kernel
theorem s279_3 {d : Nat} {st : List Value} {σ : am_I} {ρ : am_R} {g : am_J} {τ : am_T} {Q : am_Q} {x0 x1 x2 x3 : Value} {v : Int32} : AW d 279 3 [x0, x1, x2, x3] (.int v :: st) σ ρ g τ Q = AW d 279 4 [x0, x1, x2, x3] (.int v :: .int v :: st) σ ρ g τ Q := aw_lc m279 d279_3 rfl rfl rfl
theorem s279_3r {d : Nat} {st : List Value} {σ : am_I} {ρ : am_R} {g : am_J} {τ : am_T} {Q : am_Q} {x0 x1 x2 x3 : Value} {v : Nat} : AW d 279 3 [x0, x1, x2, x3] (.ref v :: st) σ ρ g τ Q = AW d 279 4 [x0, x1, x2, x3] (.ref v :: .ref v :: st) σ ρ g τ Q := aw_lc m279 d279_3 rfl rfl rfl
theorem d279_4 : decode cL_law 4 = .ok (.invokespecial 9, 3) := by decide +kernel
theorem s279_4 {d : Nat} {st : List Value} {σ : am_I} {ρ : am_R} {g : am_J} {τ : am_T} {Q : am_Q} {x0 x1 x2 x3 : Value} {p0 : Nat} (hs : st.length ≤ 4) : AW (d + 1) 279 4 [x0, x1, x2, x3] (.ref p0 :: st) σ ρ g τ Q = AW d 99 0 [.ref p0] [] σ ρ g τ (fun r9 σ ρ g τ => AW (d + 1) 279 7 [x0, x1, x2, x3] (r9.toList ++ st) σ ρ g τ Q) := aw_ci m279 d279_4 rfl rfl en99 ok99 rfl hs
theorem d279_7 : decode cL_law 7 = .ok (.astore_n 1, 1) := by decide +kernel
theorem s279_7r {d : Nat} {st : List Value} {σ : am_I} {ρ : am_R} {g : am_J} {τ : am_T} {Q : am_Q} {x1 x2 x3 : Value} {v : Nat} {u : Nat} : AW d 279 7 [.ref u, x1, x2, x3] (.ref v :: st) σ ρ g τ Q = AW d 279 8 [.ref u, .ref v, x2, x3] (st) σ ρ g τ Q := aw_lc m279 d279_7 rfl rfl rfl
theorem d279_8 : decode cL_law 8 = .ok (.new 10, 3) := by decide +kernel
theorem s279_8 {d : Nat} {st : List Value} {σ : am_I} {ρ : am_R} {g : am_J} {τ : am_T} {Q : am_Q} {x0 x1 x2 x3 : Value} : AW d 279 8 [x0, x1, x2, x3] (st) σ ρ g τ Q = AW d 279 11 [x0, x1, x2, x3] (.ref τ.2.2.1 :: st) (am_new 12 75 σ ρ g τ).1 (am_new 12 75 σ ρ g τ).2.1 (am_new 12 75 σ ρ g τ).2.2.1 (am_new 12 75 σ ρ g τ).2.2.2 Q := aw_new m279 d279_8 rfl rfl (by decide)
theorem d279_11 : decode cL_law 11 = .ok (.dup, 1) := by decide +kernel
theorem s279_11 {d : Nat} {st : List Value} {σ : am_I} {ρ : am_R} {g : am_J} {τ : am_T} {Q : am_Q} {x0 x1 x2 x3 : Value} {v : Int32} : AW d 279 11 [x0, x1, x2, x3] (.int v :: st) σ ρ g τ Q = AW d 279 12 [x0, x1, x2, x3] (.int v :: .int v :: st) σ ρ g τ Q := aw_lc m279 d279_11 rfl rfl rfl
theorem s279_11r {d : Nat} {st : List Value} {σ : am_I} {ρ : am_R} {g : am_J} {τ : am_T} {Q : am_Q} {x0 x1 x2 x3 : Value} {v : Nat} : AW d 279 11 [x0, x1, x2, x3] (.ref v :: st) σ ρ g τ Q = AW d 279 12 [x0, x1, x2, x3] (.ref v :: .ref v :: st) σ ρ g τ Q := aw_lc m279 d279_11 rfl rfl rfl
theorem d279_12 : decode cL_law 12 = .ok (.invokespecial 12, 3) := by decide +kernel
theorem s279_12 {d : Nat} {st : List Value} {σ : am_I} {ρ : am_R} {g : am_J} {τ : am_T} {Q : am_Q} {x0 x1 x2 x3 : Value} {p0 : Nat} (hs : st.length ≤ 4) : AW (d + 1) 279 12 [x0, x1, x2, x3] (.ref p0 :: st) σ ρ g τ Q = AW d 164 0 [.ref p0, am_jk] [] σ ρ g τ (fun r9 σ ρ g τ => AW (d + 1) 279 15 [x0, x1, x2, x3] (r9.toList ++ st) σ ρ g τ Q) := aw_ci m279 d279_12 rfl rfl en164 ok164 rfl hs
theorem d279_15 : decode cL_law 15 = .ok (.astore_n 2, 1) := by decide +kernel
theorem s279_15r {d : Nat} {st : List Value} {σ : am_I} {ρ : am_R} {g : am_J} {τ : am_T} {Q : am_Q} {x0 x2 x3 : Value} {v : Nat} {u : Nat} : AW d 279 15 [x0, .ref u, x2, x3] (.ref v :: st) σ ρ g τ Q = AW d 279 16 [x0, .ref u, .ref v, x3] (st) σ ρ g τ Q := aw_lc m279 d279_15 rfl rfl rfl
theorem d279_16 : decode cL_law 16 = .ok (.iconst 0, 1) := by decide +kernel
theorem s279_16 {d : Nat} {st : List Value} {σ : am_I} {ρ : am_R} {g : am_J} {τ : am_T} {Q : am_Q} {x0 x1 x2 x3 : Value} : AW d 279 16 [x0, x1, x2, x3] (st) σ ρ g τ Q = AW d 279 17 [x0, x1, x2, x3] (.int 0 :: st) σ ρ g τ Q := aw_lc m279 d279_16 rfl rfl rfl
theorem d279_17 : decode cL_law 17 = .ok (.istore_n 3, 1) := by decide +kernel
theorem s279_17r {d : Nat} {st : List Value} {σ : am_I} {ρ : am_R} {g : am_J} {τ : am_T} {Q : am_Q} {x0 x1 x3 : Value} {v : Int32} {u : Nat} : AW d 279 17 [x0, x1, .ref u, x3] (.int v :: st) σ ρ g τ Q = AW d 279 18 [x0, x1, .ref u, .int v] (st) σ ρ g τ Q := aw_lc m279 d279_17 rfl rfl rfl
theorem d279_18 : decode cL_law 18 = .ok (.iload_n 3, 1) := by decide +kernel
theorem s279_18 {d : Nat} {st : List Value} {σ : am_I} {ρ : am_R} {g : am_J} {τ : am_T} {Q : am_Q} {x0 x1 x2 : Value} {v : Int32} : AW d 279 18 [x0, x1, x2, .int v] (st) σ ρ g τ Q = AW d 279 19 [x0, x1, x2, .int v] (.int v :: st) σ ρ g τ Q := aw_lc m279 d279_18 rfl rfl rfl
theorem d279_19 : decode cL_law 19 = .ok (.aload_n 0, 1) := by decide +kernel
theorem s279_19 {d : Nat} {st : List Value} {σ : am_I} {ρ : am_R} {g : am_J} {τ : am_T} {Q : am_Q} {x1 x2 x3 : Value} {v : Nat} : AW d 279 19 [.ref v, x1, x2, x3] (st) σ ρ g τ Q = AW d 279 20 [.ref v, x1, x2, x3] (.ref v :: st) σ ρ g τ Q := aw_lc m279 d279_19 rfl rfl rfl
theorem d279_20 : decode cL_law 20 = .ok (.arraylength, 1) := by decide +kernel
theorem s279_20 {d : Nat} {st : List Value} {σ : am_I} {ρ : am_R} {g : am_J} {τ : am_T} {Q : am_Q} {x0 x1 x2 x3 : Value} {a : Nat} (ht : 14 ≤ τ.1 a ∧ τ.1 a ≤ 22) : AW d 279 20 [x0, x1, x2, x3] (.ref a :: st) σ ρ g τ Q = AW d 279 21 [x0, x1, x2, x3] (.int (nI (τ.2.1 a)) :: st) σ ρ g τ Q := aw_len m279 d279_20 rfl ht
theorem d279_21 : decode cL_law 21 = .ok (.iconst 5, 1) := by decide +kernel
theorem s279_21 {d : Nat} {st : List Value} {σ : am_I} {ρ : am_R} {g : am_J} {τ : am_T} {Q : am_Q} {x0 x1 x2 x3 : Value} : AW d 279 21 [x0, x1, x2, x3] (st) σ ρ g τ Q = AW d 279 22 [x0, x1, x2, x3] (.int 5 :: st) σ ρ g τ Q := aw_lc m279 d279_21 rfl rfl rfl
theorem d279_22 : decode cL_law 22 = .ok (.isub, 1) := by decide +kernel
theorem s279_22 {d : Nat} {st : List Value} {σ : am_I} {ρ : am_R} {g : am_J} {τ : am_T} {Q : am_Q} {x0 x1 x2 x3 : Value} {v w : Int32} : AW d 279 22 [x0, x1, x2, x3] (.int w :: .int v :: st) σ ρ g τ Q = AW d 279 23 [x0, x1, x2, x3] (.int (v - w) :: st) σ ρ g τ Q := aw_lc m279 d279_22 rfl rfl rfl
theorem d279_23 : decode cL_law 23 = .ok (.if_icmp .gt 1796, 3) := by decide +kernel
theorem s279_23 {d : Nat} {st : List Value} {σ : am_I} {ρ : am_R} {g : am_J} {τ : am_T} {Q : am_Q} {x0 x1 x2 x3 : Value} {v w : Int32} : AW d 279 23 [x0, x1, x2, x3] (.int w :: .int v :: st) σ ρ g τ Q = if w < v then AW d 279 1819 [x0, x1, x2, x3] (st) σ ρ g τ Q else AW d 279 26 [x0, x1, x2, x3] (st) σ ρ g τ Q := aw_br m279 d279_23 rfl rfl rfl
theorem d279_26 : decode cL_law 26 = .ok (.aload_n 0, 1) := by decide +kernel
theorem s279_26 {d : Nat} {st : List Value} {σ : am_I} {ρ : am_R} {g : am_J} {τ : am_T} {Q : am_Q} {x1 x2 x3 : Value} {v : Nat} : AW d 279 26 [.ref v, x1, x2, x3] (st) σ ρ g τ Q = AW d 279 27 [.ref v, x1, x2, x3] (.ref v :: st) σ ρ g τ Q := aw_lc m279 d279_26 rfl rfl rfl
theorem d279_27 : decode cL_law 27 = .ok (.iload_n 3, 1) := by decide +kernel
theorem s279_27 {d : Nat} {st : List Value} {σ : am_I} {ρ : am_R} {g : am_J} {τ : am_T} {Q : am_Q} {x0 x1 x2 : Value} {v : Int32} : AW d 279 27 [x0, x1, x2, .int v] (st) σ ρ g τ Q = AW d 279 28 [x0, x1, x2, .int v] (.int v :: st) σ ρ g τ Q := aw_lc m279 d279_27 rfl rfl rfl
theorem d279_28 : decode cL_law 28 = .ok (.iaload, 1) := by decide +kernel
theorem s279_28 {d : Nat} {st : List Value} {σ : am_I} {ρ : am_R} {g : am_J} {τ : am_T} {Q : am_Q} {x0 x1 x2 x3 : Value} {a : Nat} {j : Int32} (ht : τ.1 a = 15) (hj : am_inb j (τ.2.1 a) = true) : AW d 279 28 [x0, x1, x2, x3] (.int j :: .ref a :: st) σ ρ g τ Q = AW d 279 29 [x0, x1, x2, x3] (.int (σ a j.toNatClampNeg) :: st) σ ρ g τ Q := aw_ial m279 d279_28 rfl ht hj
theorem d279_29 : decode cL_law 29 = .ok (.bipush 63, 2) := by decide +kernel
theorem s279_29 {d : Nat} {st : List Value} {σ : am_I} {ρ : am_R} {g : am_J} {τ : am_T} {Q : am_Q} {x0 x1 x2 x3 : Value} : AW d 279 29 [x0, x1, x2, x3] (st) σ ρ g τ Q = AW d 279 31 [x0, x1, x2, x3] (.int 63 :: st) σ ρ g τ Q := aw_lc m279 d279_29 rfl rfl rfl
theorem d279_31 : decode cL_law 31 = .ok (.iand, 1) := by decide +kernel
theorem s279_31 {d : Nat} {st : List Value} {σ : am_I} {ρ : am_R} {g : am_J} {τ : am_T} {Q : am_Q} {x0 x1 x2 x3 : Value} {v w : Int32} : AW d 279 31 [x0, x1, x2, x3] (.int w :: .int v :: st) σ ρ g τ Q = AW d 279 32 [x0, x1, x2, x3] (.int (v &&& w) :: st) σ ρ g τ Q := aw_lc m279 d279_31 rfl rfl rfl
theorem d279_32 : decode cL_law 32 = .ok (.tableswitch 1781 0 44 #[196, 219, 252, 295, 338, 371, 404, 437, 490, 533, 576, 609, 652, 695, 718, 781, 794, 837, 880, 923, 956, 989, 1032, 1065, 1108, 1141, 1194, 1217, 1250, 1273, 1326, 1349, 1382, 1425, 1438, 1461, 1504, 1547, 1590, 1633, 1666, 1709, 1732, 1755, 1768], 196) := by decide +kernel
theorem s279_32_0 {d : Nat} {st : List Value} {σ : am_I} {ρ : am_R} {g : am_J} {τ : am_T} {Q : am_Q} {x0 x1 x2 x3 : Value} : AW d 279 32 [x0, x1, x2, x3] (.int 0 :: st) σ ρ g τ Q = AW d 279 228 [x0, x1, x2, x3] (st) σ ρ g τ Q := aw_lc m279 d279_32 rfl rfl rfl
theorem s279_32_1 {d : Nat} {st : List Value} {σ : am_I} {ρ : am_R} {g : am_J} {τ : am_T} {Q : am_Q} {x0 x1 x2 x3 : Value} : AW d 279 32 [x0, x1, x2, x3] (.int 1 :: st) σ ρ g τ Q = AW d 279 251 [x0, x1, x2, x3] (st) σ ρ g τ Q := aw_lc m279 d279_32 rfl rfl rfl
theorem s279_32_2 {d : Nat} {st : List Value} {σ : am_I} {ρ : am_R} {g : am_J} {τ : am_T} {Q : am_Q} {x0 x1 x2 x3 : Value} : AW d 279 32 [x0, x1, x2, x3] (.int 2 :: st) σ ρ g τ Q = AW d 279 284 [x0, x1, x2, x3] (st) σ ρ g τ Q := aw_lc m279 d279_32 rfl rfl rfl
theorem s279_32_3 {d : Nat} {st : List Value} {σ : am_I} {ρ : am_R} {g : am_J} {τ : am_T} {Q : am_Q} {x0 x1 x2 x3 : Value} : AW d 279 32 [x0, x1, x2, x3] (.int 3 :: st) σ ρ g τ Q = AW d 279 327 [x0, x1, x2, x3] (st) σ ρ g τ Q := aw_lc m279 d279_32 rfl rfl rfl
theorem s279_32_4 {d : Nat} {st : List Value} {σ : am_I} {ρ : am_R} {g : am_J} {τ : am_T} {Q : am_Q} {x0 x1 x2 x3 : Value} : AW d 279 32 [x0, x1, x2, x3] (.int 4 :: st) σ ρ g τ Q = AW d 279 370 [x0, x1, x2, x3] (st) σ ρ g τ Q := aw_lc m279 d279_32 rfl rfl rfl
theorem s279_32_5 {d : Nat} {st : List Value} {σ : am_I} {ρ : am_R} {g : am_J} {τ : am_T} {Q : am_Q} {x0 x1 x2 x3 : Value} : AW d 279 32 [x0, x1, x2, x3] (.int 5 :: st) σ ρ g τ Q = AW d 279 403 [x0, x1, x2, x3] (st) σ ρ g τ Q := aw_lc m279 d279_32 rfl rfl rfl
theorem s279_32_6 {d : Nat} {st : List Value} {σ : am_I} {ρ : am_R} {g : am_J} {τ : am_T} {Q : am_Q} {x0 x1 x2 x3 : Value} : AW d 279 32 [x0, x1, x2, x3] (.int 6 :: st) σ ρ g τ Q = AW d 279 436 [x0, x1, x2, x3] (st) σ ρ g τ Q := aw_lc m279 d279_32 rfl rfl rfl
theorem s279_32_7 {d : Nat} {st : List Value} {σ : am_I} {ρ : am_R} {g : am_J} {τ : am_T} {Q : am_Q} {x0 x1 x2 x3 : Value} : AW d 279 32 [x0, x1, x2, x3] (.int 7 :: st) σ ρ g τ Q = AW d 279 469 [x0, x1, x2, x3] (st) σ ρ g τ Q := aw_lc m279 d279_32 rfl rfl rfl
theorem s279_32_8 {d : Nat} {st : List Value} {σ : am_I} {ρ : am_R} {g : am_J} {τ : am_T} {Q : am_Q} {x0 x1 x2 x3 : Value} : AW d 279 32 [x0, x1, x2, x3] (.int 8 :: st) σ ρ g τ Q = AW d 279 522 [x0, x1, x2, x3] (st) σ ρ g τ Q := aw_lc m279 d279_32 rfl rfl rfl
theorem s279_32_9 {d : Nat} {st : List Value} {σ : am_I} {ρ : am_R} {g : am_J} {τ : am_T} {Q : am_Q} {x0 x1 x2 x3 : Value} : AW d 279 32 [x0, x1, x2, x3] (.int 9 :: st) σ ρ g τ Q = AW d 279 565 [x0, x1, x2, x3] (st) σ ρ g τ Q := aw_lc m279 d279_32 rfl rfl rfl
theorem s279_32_10 {d : Nat} {st : List Value} {σ : am_I} {ρ : am_R} {g : am_J} {τ : am_T} {Q : am_Q} {x0 x1 x2 x3 : Value} : AW d 279 32 [x0, x1, x2, x3] (.int 10 :: st) σ ρ g τ Q = AW d 279 608 [x0, x1, x2, x3] (st) σ ρ g τ Q := aw_lc m279 d279_32 rfl rfl rfl
theorem s279_32_11 {d : Nat} {st : List Value} {σ : am_I} {ρ : am_R} {g : am_J} {τ : am_T} {Q : am_Q} {x0 x1 x2 x3 : Value} : AW d 279 32 [x0, x1, x2, x3] (.int 11 :: st) σ ρ g τ Q = AW d 279 641 [x0, x1, x2, x3] (st) σ ρ g τ Q := aw_lc m279 d279_32 rfl rfl rfl
theorem s279_32_12 {d : Nat} {st : List Value} {σ : am_I} {ρ : am_R} {g : am_J} {τ : am_T} {Q : am_Q} {x0 x1 x2 x3 : Value} : AW d 279 32 [x0, x1, x2, x3] (.int 12 :: st) σ ρ g τ Q = AW d 279 684 [x0, x1, x2, x3] (st) σ ρ g τ Q := aw_lc m279 d279_32 rfl rfl rfl
theorem s279_32_13 {d : Nat} {st : List Value} {σ : am_I} {ρ : am_R} {g : am_J} {τ : am_T} {Q : am_Q} {x0 x1 x2 x3 : Value} : AW d 279 32 [x0, x1, x2, x3] (.int 13 :: st) σ ρ g τ Q = AW d 279 727 [x0, x1, x2, x3] (st) σ ρ g τ Q := aw_lc m279 d279_32 rfl rfl rfl
theorem s279_32_14 {d : Nat} {st : List Value} {σ : am_I} {ρ : am_R} {g : am_J} {τ : am_T} {Q : am_Q} {x0 x1 x2 x3 : Value} : AW d 279 32 [x0, x1, x2, x3] (.int 14 :: st) σ ρ g τ Q = AW d 279 750 [x0, x1, x2, x3] (st) σ ρ g τ Q := aw_lc m279 d279_32 rfl rfl rfl
theorem s279_32_15 {d : Nat} {st : List Value} {σ : am_I} {ρ : am_R} {g : am_J} {τ : am_T} {Q : am_Q} {x0 x1 x2 x3 : Value} : AW d 279 32 [x0, x1, x2, x3] (.int 15 :: st) σ ρ g τ Q = AW d 279 813 [x0, x1, x2, x3] (st) σ ρ g τ Q := aw_lc m279 d279_32 rfl rfl rfl
theorem s279_32_16 {d : Nat} {st : List Value} {σ : am_I} {ρ : am_R} {g : am_J} {τ : am_T} {Q : am_Q} {x0 x1 x2 x3 : Value} : AW d 279 32 [x0, x1, x2, x3] (.int 16 :: st) σ ρ g τ Q = AW d 279 826 [x0, x1, x2, x3] (st) σ ρ g τ Q := aw_lc m279 d279_32 rfl rfl rfl
theorem s279_32_17 {d : Nat} {st : List Value} {σ : am_I} {ρ : am_R} {g : am_J} {τ : am_T} {Q : am_Q} {x0 x1 x2 x3 : Value} : AW d 279 32 [x0, x1, x2, x3] (.int 17 :: st) σ ρ g τ Q = AW d 279 869 [x0, x1, x2, x3] (st) σ ρ g τ Q := aw_lc m279 d279_32 rfl rfl rfl
theorem s279_32_18 {d : Nat} {st : List Value} {σ : am_I} {ρ : am_R} {g : am_J} {τ : am_T} {Q : am_Q} {x0 x1 x2 x3 : Value} : AW d 279 32 [x0, x1, x2, x3] (.int 18 :: st) σ ρ g τ Q = AW d 279 912 [x0, x1, x2, x3] (st) σ ρ g τ Q := aw_lc m279 d279_32 rfl rfl rfl
theorem s279_32_19 {d : Nat} {st : List Value} {σ : am_I} {ρ : am_R} {g : am_J} {τ : am_T} {Q : am_Q} {x0 x1 x2 x3 : Value} : AW d 279 32 [x0, x1, x2, x3] (.int 19 :: st) σ ρ g τ Q = AW d 279 955 [x0, x1, x2, x3] (st) σ ρ g τ Q := aw_lc m279 d279_32 rfl rfl rfl
theorem s279_32_20 {d : Nat} {st : List Value} {σ : am_I} {ρ : am_R} {g : am_J} {τ : am_T} {Q : am_Q} {x0 x1 x2 x3 : Value} : AW d 279 32 [x0, x1, x2, x3] (.int 20 :: st) σ ρ g τ Q = AW d 279 988 [x0, x1, x2, x3] (st) σ ρ g τ Q := aw_lc m279 d279_32 rfl rfl rfl
theorem s279_32_21 {d : Nat} {st : List Value} {σ : am_I} {ρ : am_R} {g : am_J} {τ : am_T} {Q : am_Q} {x0 x1 x2 x3 : Value} : AW d 279 32 [x0, x1, x2, x3] (.int 21 :: st) σ ρ g τ Q = AW d 279 1021 [x0, x1, x2, x3] (st) σ ρ g τ Q := aw_lc m279 d279_32 rfl rfl rfl
theorem s279_32_22 {d : Nat} {st : List Value} {σ : am_I} {ρ : am_R} {g : am_J} {τ : am_T} {Q : am_Q} {x0 x1 x2 x3 : Value} : AW d 279 32 [x0, x1, x2, x3] (.int 22 :: st) σ ρ g τ Q = AW d 279 1064 [x0, x1, x2, x3] (st) σ ρ g τ Q := aw_lc m279 d279_32 rfl rfl rfl
theorem s279_32_23 {d : Nat} {st : List Value} {σ : am_I} {ρ : am_R} {g : am_J} {τ : am_T} {Q : am_Q} {x0 x1 x2 x3 : Value} : AW d 279 32 [x0, x1, x2, x3] (.int 23 :: st) σ ρ g τ Q = AW d 279 1097 [x0, x1, x2, x3] (st) σ ρ g τ Q := aw_lc m279 d279_32 rfl rfl rfl
theorem s279_32_24 {d : Nat} {st : List Value} {σ : am_I} {ρ : am_R} {g : am_J} {τ : am_T} {Q : am_Q} {x0 x1 x2 x3 : Value} : AW d 279 32 [x0, x1, x2, x3] (.int 24 :: st) σ ρ g τ Q = AW d 279 1140 [x0, x1, x2, x3] (st) σ ρ g τ Q := aw_lc m279 d279_32 rfl rfl rfl
theorem s279_32_25 {d : Nat} {st : List Value} {σ : am_I} {ρ : am_R} {g : am_J} {τ : am_T} {Q : am_Q} {x0 x1 x2 x3 : Value} : AW d 279 32 [x0, x1, x2, x3] (.int 25 :: st) σ ρ g τ Q = AW d 279 1173 [x0, x1, x2, x3] (st) σ ρ g τ Q := aw_lc m279 d279_32 rfl rfl rfl
theorem s279_32_26 {d : Nat} {st : List Value} {σ : am_I} {ρ : am_R} {g : am_J} {τ : am_T} {Q : am_Q} {x0 x1 x2 x3 : Value} : AW d 279 32 [x0, x1, x2, x3] (.int 26 :: st) σ ρ g τ Q = AW d 279 1226 [x0, x1, x2, x3] (st) σ ρ g τ Q := aw_lc m279 d279_32 rfl rfl rfl
theorem s279_32_27 {d : Nat} {st : List Value} {σ : am_I} {ρ : am_R} {g : am_J} {τ : am_T} {Q : am_Q} {x0 x1 x2 x3 : Value} : AW d 279 32 [x0, x1, x2, x3] (.int 27 :: st) σ ρ g τ Q = AW d 279 1249 [x0, x1, x2, x3] (st) σ ρ g τ Q := aw_lc m279 d279_32 rfl rfl rfl
theorem s279_32_28 {d : Nat} {st : List Value} {σ : am_I} {ρ : am_R} {g : am_J} {τ : am_T} {Q : am_Q} {x0 x1 x2 x3 : Value} : AW d 279 32 [x0, x1, x2, x3] (.int 28 :: st) σ ρ g τ Q = AW d 279 1282 [x0, x1, x2, x3] (st) σ ρ g τ Q := aw_lc m279 d279_32 rfl rfl rfl
theorem s279_32_29 {d : Nat} {st : List Value} {σ : am_I} {ρ : am_R} {g : am_J} {τ : am_T} {Q : am_Q} {x0 x1 x2 x3 : Value} : AW d 279 32 [x0, x1, x2, x3] (.int 29 :: st) σ ρ g τ Q = AW d 279 1305 [x0, x1, x2, x3] (st) σ ρ g τ Q := aw_lc m279 d279_32 rfl rfl rfl
theorem s279_32_30 {d : Nat} {st : List Value} {σ : am_I} {ρ : am_R} {g : am_J} {τ : am_T} {Q : am_Q} {x0 x1 x2 x3 : Value} : AW d 279 32 [x0, x1, x2, x3] (.int 30 :: st) σ ρ g τ Q = AW d 279 1358 [x0, x1, x2, x3] (st) σ ρ g τ Q := aw_lc m279 d279_32 rfl rfl rfl
theorem s279_32_31 {d : Nat} {st : List Value} {σ : am_I} {ρ : am_R} {g : am_J} {τ : am_T} {Q : am_Q} {x0 x1 x2 x3 : Value} : AW d 279 32 [x0, x1, x2, x3] (.int 31 :: st) σ ρ g τ Q = AW d 279 1381 [x0, x1, x2, x3] (st) σ ρ g τ Q := aw_lc m279 d279_32 rfl rfl rfl
theorem s279_32_32 {d : Nat} {st : List Value} {σ : am_I} {ρ : am_R} {g : am_J} {τ : am_T} {Q : am_Q} {x0 x1 x2 x3 : Value} : AW d 279 32 [x0, x1, x2, x3] (.int 32 :: st) σ ρ g τ Q = AW d 279 1414 [x0, x1, x2, x3] (st) σ ρ g τ Q := aw_lc m279 d279_32 rfl rfl rfl
theorem s279_32_33 {d : Nat} {st : List Value} {σ : am_I} {ρ : am_R} {g : am_J} {τ : am_T} {Q : am_Q} {x0 x1 x2 x3 : Value} : AW d 279 32 [x0, x1, x2, x3] (.int 33 :: st) σ ρ g τ Q = AW d 279 1457 [x0, x1, x2, x3] (st) σ ρ g τ Q := aw_lc m279 d279_32 rfl rfl rfl
theorem s279_32_34 {d : Nat} {st : List Value} {σ : am_I} {ρ : am_R} {g : am_J} {τ : am_T} {Q : am_Q} {x0 x1 x2 x3 : Value} : AW d 279 32 [x0, x1, x2, x3] (.int 34 :: st) σ ρ g τ Q = AW d 279 1470 [x0, x1, x2, x3] (st) σ ρ g τ Q := aw_lc m279 d279_32 rfl rfl rfl
theorem s279_32_35 {d : Nat} {st : List Value} {σ : am_I} {ρ : am_R} {g : am_J} {τ : am_T} {Q : am_Q} {x0 x1 x2 x3 : Value} : AW d 279 32 [x0, x1, x2, x3] (.int 35 :: st) σ ρ g τ Q = AW d 279 1493 [x0, x1, x2, x3] (st) σ ρ g τ Q := aw_lc m279 d279_32 rfl rfl rfl
theorem s279_32_36 {d : Nat} {st : List Value} {σ : am_I} {ρ : am_R} {g : am_J} {τ : am_T} {Q : am_Q} {x0 x1 x2 x3 : Value} : AW d 279 32 [x0, x1, x2, x3] (.int 36 :: st) σ ρ g τ Q = AW d 279 1536 [x0, x1, x2, x3] (st) σ ρ g τ Q := aw_lc m279 d279_32 rfl rfl rfl
theorem s279_32_37 {d : Nat} {st : List Value} {σ : am_I} {ρ : am_R} {g : am_J} {τ : am_T} {Q : am_Q} {x0 x1 x2 x3 : Value} : AW d 279 32 [x0, x1, x2, x3] (.int 37 :: st) σ ρ g τ Q = AW d 279 1579 [x0, x1, x2, x3] (st) σ ρ g τ Q := aw_lc m279 d279_32 rfl rfl rfl
theorem s279_32_38 {d : Nat} {st : List Value} {σ : am_I} {ρ : am_R} {g : am_J} {τ : am_T} {Q : am_Q} {x0 x1 x2 x3 : Value} : AW d 279 32 [x0, x1, x2, x3] (.int 38 :: st) σ ρ g τ Q = AW d 279 1622 [x0, x1, x2, x3] (st) σ ρ g τ Q := aw_lc m279 d279_32 rfl rfl rfl
theorem s279_32_39 {d : Nat} {st : List Value} {σ : am_I} {ρ : am_R} {g : am_J} {τ : am_T} {Q : am_Q} {x0 x1 x2 x3 : Value} : AW d 279 32 [x0, x1, x2, x3] (.int 39 :: st) σ ρ g τ Q = AW d 279 1665 [x0, x1, x2, x3] (st) σ ρ g τ Q := aw_lc m279 d279_32 rfl rfl rfl
theorem s279_32_40 {d : Nat} {st : List Value} {σ : am_I} {ρ : am_R} {g : am_J} {τ : am_T} {Q : am_Q} {x0 x1 x2 x3 : Value} : AW d 279 32 [x0, x1, x2, x3] (.int 40 :: st) σ ρ g τ Q = AW d 279 1698 [x0, x1, x2, x3] (st) σ ρ g τ Q := aw_lc m279 d279_32 rfl rfl rfl
theorem s279_32_41 {d : Nat} {st : List Value} {σ : am_I} {ρ : am_R} {g : am_J} {τ : am_T} {Q : am_Q} {x0 x1 x2 x3 : Value} : AW d 279 32 [x0, x1, x2, x3] (.int 41 :: st) σ ρ g τ Q = AW d 279 1741 [x0, x1, x2, x3] (st) σ ρ g τ Q := aw_lc m279 d279_32 rfl rfl rfl
theorem s279_32_42 {d : Nat} {st : List Value} {σ : am_I} {ρ : am_R} {g : am_J} {τ : am_T} {Q : am_Q} {x0 x1 x2 x3 : Value} : AW d 279 32 [x0, x1, x2, x3] (.int 42 :: st) σ ρ g τ Q = AW d 279 1764 [x0, x1, x2, x3] (st) σ ρ g τ Q := aw_lc m279 d279_32 rfl rfl rfl
theorem s279_32_43 {d : Nat} {st : List Value} {σ : am_I} {ρ : am_R} {g : am_J} {τ : am_T} {Q : am_Q} {x0 x1 x2 x3 : Value} : AW d 279 32 [x0, x1, x2, x3] (.int 43 :: st) σ ρ g τ Q = AW d 279 1787 [x0, x1, x2, x3] (st) σ ρ g τ Q := aw_lc m279 d279_32 rfl rfl rfl
theorem s279_32_44 {d : Nat} {st : List Value} {σ : am_I} {ρ : am_R} {g : am_J} {τ : am_T} {Q : am_Q} {x0 x1 x2 x3 : Value} : AW d 279 32 [x0, x1, x2, x3] (.int 44 :: st) σ ρ g τ Q = AW d 279 1800 [x0, x1, x2, x3] (st) σ ρ g τ Q := aw_lc m279 d279_32 rfl rfl rfl
theorem s279_32_d {d : Nat} {st : List Value} {σ : am_I} {ρ : am_R} {g : am_J} {τ : am_T} {Q : am_Q} {x0 x1 x2 x3 : Value} {v : Int32} (h : v.toInt < 0 ∨ 44 < v.toInt) : AW d 279 32 [x0, x1, x2, x3] (.int v :: st) σ ρ g τ Q = AW d 279 1813 [x0, x1, x2, x3] (st) σ ρ g τ Q := aw_lc m279 d279_32 rfl rfl (by simp only [am_lc]; rw [if_pos h]; rfl)
theorem d279_228 : decode cL_law 228 = .ok (.aload_n 1, 1) := by decide +kernel
theorem s279_228 {d : Nat} {st : List Value} {σ : am_I} {ρ : am_R} {g : am_J} {τ : am_T} {Q : am_Q} {x0 x2 x3 : Value} {v : Nat} : AW d 279 228 [x0, .ref v, x2, x3] (st) σ ρ g τ Q = AW d 279 229 [x0, .ref v, x2, x3] (.ref v :: st) σ ρ g τ Q := aw_lc m279 d279_228 rfl rfl rfl
theorem d279_229 : decode cL_law 229 = .ok (.aload_n 0, 1) := by decide +kernel
theorem s279_229 {d : Nat} {st : List Value} {σ : am_I} {ρ : am_R} {g : am_J} {τ : am_T} {Q : am_Q} {x1 x2 x3 : Value} {v : Nat} : AW d 279 229 [.ref v, x1, x2, x3] (st) σ ρ g τ Q = AW d 279 230 [.ref v, x1, x2, x3] (.ref v :: st) σ ρ g τ Q := aw_lc m279 d279_229 rfl rfl rfl
theorem d279_230 : decode cL_law 230 = .ok (.iload_n 3, 1) := by decide +kernel
theorem s279_230 {d : Nat} {st : List Value} {σ : am_I} {ρ : am_R} {g : am_J} {τ : am_T} {Q : am_Q} {x0 x1 x2 : Value} {v : Int32} : AW d 279 230 [x0, x1, x2, .int v] (st) σ ρ g τ Q = AW d 279 231 [x0, x1, x2, .int v] (.int v :: st) σ ρ g τ Q := aw_lc m279 d279_230 rfl rfl rfl
theorem d279_231 : decode cL_law 231 = .ok (.iconst 1, 1) := by decide +kernel
theorem s279_231 {d : Nat} {st : List Value} {σ : am_I} {ρ : am_R} {g : am_J} {τ : am_T} {Q : am_Q} {x0 x1 x2 x3 : Value} : AW d 279 231 [x0, x1, x2, x3] (st) σ ρ g τ Q = AW d 279 232 [x0, x1, x2, x3] (.int 1 :: st) σ ρ g τ Q := aw_lc m279 d279_231 rfl rfl rfl
theorem d279_232 : decode cL_law 232 = .ok (.iadd, 1) := by decide +kernel
theorem s279_232 {d : Nat} {st : List Value} {σ : am_I} {ρ : am_R} {g : am_J} {τ : am_T} {Q : am_Q} {x0 x1 x2 x3 : Value} {v w : Int32} : AW d 279 232 [x0, x1, x2, x3] (.int w :: .int v :: st) σ ρ g τ Q = AW d 279 233 [x0, x1, x2, x3] (.int (v + w) :: st) σ ρ g τ Q := aw_lc m279 d279_232 rfl rfl rfl
theorem d279_233 : decode cL_law 233 = .ok (.iaload, 1) := by decide +kernel
theorem s279_233 {d : Nat} {st : List Value} {σ : am_I} {ρ : am_R} {g : am_J} {τ : am_T} {Q : am_Q} {x0 x1 x2 x3 : Value} {a : Nat} {j : Int32} (ht : τ.1 a = 15) (hj : am_inb j (τ.2.1 a) = true) : AW d 279 233 [x0, x1, x2, x3] (.int j :: .ref a :: st) σ ρ g τ Q = AW d 279 234 [x0, x1, x2, x3] (.int (σ a j.toNatClampNeg) :: st) σ ρ g τ Q := aw_ial m279 d279_233 rfl ht hj
theorem d279_234 : decode cL_law 234 = .ok (.invokevirtual 13, 3) := by decide +kernel
theorem s279_234 {d : Nat} {st : List Value} {σ : am_I} {ρ : am_R} {g : am_J} {τ : am_T} {Q : am_Q} {x0 x1 x2 x3 : Value} {p0 : Nat} {p1 : Int32} (ht : τ.1 p0 = 11) (hs : st.length ≤ 4) : AW (d + 1) 279 234 [x0, x1, x2, x3] (.int p1 :: .ref p0 :: st) σ ρ g τ Q = AW d 108 0 [.ref p0, .int p1, am_jk] [] σ ρ g τ (fun r9 σ ρ g τ => AW (d + 1) 279 237 [x0, x1, x2, x3] (r9.toList ++ st) σ ρ g τ Q) := aw_cv m279 d279_234 rfl m108 rfl rfl (by decide) en108 ok108 rfl ht hs
theorem d279_237 : decode cL_law 237 = .ok (.aload_n 2, 1) := by decide +kernel
theorem s279_237 {d : Nat} {st : List Value} {σ : am_I} {ρ : am_R} {g : am_J} {τ : am_T} {Q : am_Q} {x0 x1 x3 : Value} {v : Nat} : AW d 279 237 [x0, x1, .ref v, x3] (st) σ ρ g τ Q = AW d 279 238 [x0, x1, .ref v, x3] (.ref v :: st) σ ρ g τ Q := aw_lc m279 d279_237 rfl rfl rfl
theorem d279_238 : decode cL_law 238 = .ok (.aload_n 0, 1) := by decide +kernel
theorem s279_238 {d : Nat} {st : List Value} {σ : am_I} {ρ : am_R} {g : am_J} {τ : am_T} {Q : am_Q} {x1 x2 x3 : Value} {v : Nat} : AW d 279 238 [.ref v, x1, x2, x3] (st) σ ρ g τ Q = AW d 279 239 [.ref v, x1, x2, x3] (.ref v :: st) σ ρ g τ Q := aw_lc m279 d279_238 rfl rfl rfl
theorem d279_239 : decode cL_law 239 = .ok (.iload_n 3, 1) := by decide +kernel
theorem s279_239 {d : Nat} {st : List Value} {σ : am_I} {ρ : am_R} {g : am_J} {τ : am_T} {Q : am_Q} {x0 x1 x2 : Value} {v : Int32} : AW d 279 239 [x0, x1, x2, .int v] (st) σ ρ g τ Q = AW d 279 240 [x0, x1, x2, .int v] (.int v :: st) σ ρ g τ Q := aw_lc m279 d279_239 rfl rfl rfl
theorem d279_240 : decode cL_law 240 = .ok (.iconst 1, 1) := by decide +kernel
theorem s279_240 {d : Nat} {st : List Value} {σ : am_I} {ρ : am_R} {g : am_J} {τ : am_T} {Q : am_Q} {x0 x1 x2 x3 : Value} : AW d 279 240 [x0, x1, x2, x3] (st) σ ρ g τ Q = AW d 279 241 [x0, x1, x2, x3] (.int 1 :: st) σ ρ g τ Q := aw_lc m279 d279_240 rfl rfl rfl
theorem d279_241 : decode cL_law 241 = .ok (.iadd, 1) := by decide +kernel
theorem s279_241 {d : Nat} {st : List Value} {σ : am_I} {ρ : am_R} {g : am_J} {τ : am_T} {Q : am_Q} {x0 x1 x2 x3 : Value} {v w : Int32} : AW d 279 241 [x0, x1, x2, x3] (.int w :: .int v :: st) σ ρ g τ Q = AW d 279 242 [x0, x1, x2, x3] (.int (v + w) :: st) σ ρ g τ Q := aw_lc m279 d279_241 rfl rfl rfl
theorem d279_242 : decode cL_law 242 = .ok (.iaload, 1) := by decide +kernel
theorem s279_242 {d : Nat} {st : List Value} {σ : am_I} {ρ : am_R} {g : am_J} {τ : am_T} {Q : am_Q} {x0 x1 x2 x3 : Value} {a : Nat} {j : Int32} (ht : τ.1 a = 15) (hj : am_inb j (τ.2.1 a) = true) : AW d 279 242 [x0, x1, x2, x3] (.int j :: .ref a :: st) σ ρ g τ Q = AW d 279 243 [x0, x1, x2, x3] (.int (σ a j.toNatClampNeg) :: st) σ ρ g τ Q := aw_ial m279 d279_242 rfl ht hj
theorem d279_243 : decode cL_law 243 = .ok (.invokevirtual 17, 3) := by decide +kernel
theorem s279_243 {d : Nat} {st : List Value} {σ : am_I} {ρ : am_R} {g : am_J} {τ : am_T} {Q : am_Q} {x0 x1 x2 x3 : Value} {p0 : Nat} {p1 : Int32} (ht : τ.1 p0 = 12) (hs : st.length ≤ 4) : AW (d + 1) 279 243 [x0, x1, x2, x3] (.int p1 :: .ref p0 :: st) σ ρ g τ Q = AW d 221 0 [.ref p0, .int p1, am_jk] [] σ ρ g τ (fun r9 σ ρ g τ => AW (d + 1) 279 246 [x0, x1, x2, x3] (r9.toList ++ st) σ ρ g τ Q) := aw_cv m279 d279_243 rfl m221 rfl rfl (by decide) en221 ok221 rfl ht hs
theorem d279_246 : decode cL_law 246 = .ok (.if_icmp .eq 1567, 3) := by decide +kernel
theorem s279_246 {d : Nat} {st : List Value} {σ : am_I} {ρ : am_R} {g : am_J} {τ : am_T} {Q : am_Q} {x0 x1 x2 x3 : Value} {v w : Int32} : AW d 279 246 [x0, x1, x2, x3] (.int w :: .int v :: st) σ ρ g τ Q = if v = w then AW d 279 1813 [x0, x1, x2, x3] (st) σ ρ g τ Q else AW d 279 249 [x0, x1, x2, x3] (st) σ ρ g τ Q := aw_br m279 d279_246 rfl rfl rfl
theorem d279_249 : decode cL_law 249 = .ok (.iconst 0, 1) := by decide +kernel
theorem s279_249 {d : Nat} {st : List Value} {σ : am_I} {ρ : am_R} {g : am_J} {τ : am_T} {Q : am_Q} {x0 x1 x2 x3 : Value} : AW d 279 249 [x0, x1, x2, x3] (st) σ ρ g τ Q = AW d 279 250 [x0, x1, x2, x3] (.int 0 :: st) σ ρ g τ Q := aw_lc m279 d279_249 rfl rfl rfl
theorem d279_250 : decode cL_law 250 = .ok (.ireturn, 1) := by decide +kernel
theorem s279_250 {d : Nat} {σ : am_I} {ρ : am_R} {g : am_J} {τ : am_T} {Q : am_Q} {x0 x1 x2 x3 : Value} {v : Int32} (hv : am_b01 v = true) : AW d 279 250 [x0, x1, x2, x3] ([.int v]) σ ρ g τ Q = Q (some (.int v)) σ ρ g τ := aw_rz m279 d279_250 rfl hv
theorem d279_251 : decode cL_law 251 = .ok (.aload_n 1, 1) := by decide +kernel
theorem s279_251 {d : Nat} {st : List Value} {σ : am_I} {ρ : am_R} {g : am_J} {τ : am_T} {Q : am_Q} {x0 x2 x3 : Value} {v : Nat} : AW d 279 251 [x0, .ref v, x2, x3] (st) σ ρ g τ Q = AW d 279 252 [x0, .ref v, x2, x3] (.ref v :: st) σ ρ g τ Q := aw_lc m279 d279_251 rfl rfl rfl
theorem d279_252 : decode cL_law 252 = .ok (.aload_n 0, 1) := by decide +kernel
theorem s279_252 {d : Nat} {st : List Value} {σ : am_I} {ρ : am_R} {g : am_J} {τ : am_T} {Q : am_Q} {x1 x2 x3 : Value} {v : Nat} : AW d 279 252 [.ref v, x1, x2, x3] (st) σ ρ g τ Q = AW d 279 253 [.ref v, x1, x2, x3] (.ref v :: st) σ ρ g τ Q := aw_lc m279 d279_252 rfl rfl rfl
theorem d279_253 : decode cL_law 253 = .ok (.iload_n 3, 1) := by decide +kernel
theorem s279_253 {d : Nat} {st : List Value} {σ : am_I} {ρ : am_R} {g : am_J} {τ : am_T} {Q : am_Q} {x0 x1 x2 : Value} {v : Int32} : AW d 279 253 [x0, x1, x2, .int v] (st) σ ρ g τ Q = AW d 279 254 [x0, x1, x2, .int v] (.int v :: st) σ ρ g τ Q := aw_lc m279 d279_253 rfl rfl rfl
theorem d279_254 : decode cL_law 254 = .ok (.iconst 1, 1) := by decide +kernel
theorem s279_254 {d : Nat} {st : List Value} {σ : am_I} {ρ : am_R} {g : am_J} {τ : am_T} {Q : am_Q} {x0 x1 x2 x3 : Value} : AW d 279 254 [x0, x1, x2, x3] (st) σ ρ g τ Q = AW d 279 255 [x0, x1, x2, x3] (.int 1 :: st) σ ρ g τ Q := aw_lc m279 d279_254 rfl rfl rfl
theorem d279_255 : decode cL_law 255 = .ok (.iadd, 1) := by decide +kernel
theorem s279_255 {d : Nat} {st : List Value} {σ : am_I} {ρ : am_R} {g : am_J} {τ : am_T} {Q : am_Q} {x0 x1 x2 x3 : Value} {v w : Int32} : AW d 279 255 [x0, x1, x2, x3] (.int w :: .int v :: st) σ ρ g τ Q = AW d 279 256 [x0, x1, x2, x3] (.int (v + w) :: st) σ ρ g τ Q := aw_lc m279 d279_255 rfl rfl rfl
theorem d279_256 : decode cL_law 256 = .ok (.iaload, 1) := by decide +kernel
theorem s279_256 {d : Nat} {st : List Value} {σ : am_I} {ρ : am_R} {g : am_J} {τ : am_T} {Q : am_Q} {x0 x1 x2 x3 : Value} {a : Nat} {j : Int32} (ht : τ.1 a = 15) (hj : am_inb j (τ.2.1 a) = true) : AW d 279 256 [x0, x1, x2, x3] (.int j :: .ref a :: st) σ ρ g τ Q = AW d 279 257 [x0, x1, x2, x3] (.int (σ a j.toNatClampNeg) :: st) σ ρ g τ Q := aw_ial m279 d279_256 rfl ht hj
theorem d279_257 : decode cL_law 257 = .ok (.aload_n 0, 1) := by decide +kernel
theorem s279_257 {d : Nat} {st : List Value} {σ : am_I} {ρ : am_R} {g : am_J} {τ : am_T} {Q : am_Q} {x1 x2 x3 : Value} {v : Nat} : AW d 279 257 [.ref v, x1, x2, x3] (st) σ ρ g τ Q = AW d 279 258 [.ref v, x1, x2, x3] (.ref v :: st) σ ρ g τ Q := aw_lc m279 d279_257 rfl rfl rfl
theorem d279_258 : decode cL_law 258 = .ok (.iload_n 3, 1) := by decide +kernel
theorem s279_258 {d : Nat} {st : List Value} {σ : am_I} {ρ : am_R} {g : am_J} {τ : am_T} {Q : am_Q} {x0 x1 x2 : Value} {v : Int32} : AW d 279 258 [x0, x1, x2, .int v] (st) σ ρ g τ Q = AW d 279 259 [x0, x1, x2, .int v] (.int v :: st) σ ρ g τ Q := aw_lc m279 d279_258 rfl rfl rfl
theorem d279_259 : decode cL_law 259 = .ok (.iconst 2, 1) := by decide +kernel
theorem s279_259 {d : Nat} {st : List Value} {σ : am_I} {ρ : am_R} {g : am_J} {τ : am_T} {Q : am_Q} {x0 x1 x2 x3 : Value} : AW d 279 259 [x0, x1, x2, x3] (st) σ ρ g τ Q = AW d 279 260 [x0, x1, x2, x3] (.int 2 :: st) σ ρ g τ Q := aw_lc m279 d279_259 rfl rfl rfl
theorem d279_260 : decode cL_law 260 = .ok (.iadd, 1) := by decide +kernel
theorem s279_260 {d : Nat} {st : List Value} {σ : am_I} {ρ : am_R} {g : am_J} {τ : am_T} {Q : am_Q} {x0 x1 x2 x3 : Value} {v w : Int32} : AW d 279 260 [x0, x1, x2, x3] (.int w :: .int v :: st) σ ρ g τ Q = AW d 279 261 [x0, x1, x2, x3] (.int (v + w) :: st) σ ρ g τ Q := aw_lc m279 d279_260 rfl rfl rfl
theorem d279_261 : decode cL_law 261 = .ok (.iaload, 1) := by decide +kernel
theorem s279_261 {d : Nat} {st : List Value} {σ : am_I} {ρ : am_R} {g : am_J} {τ : am_T} {Q : am_Q} {x0 x1 x2 x3 : Value} {a : Nat} {j : Int32} (ht : τ.1 a = 15) (hj : am_inb j (τ.2.1 a) = true) : AW d 279 261 [x0, x1, x2, x3] (.int j :: .ref a :: st) σ ρ g τ Q = AW d 279 262 [x0, x1, x2, x3] (.int (σ a j.toNatClampNeg) :: st) σ ρ g τ Q := aw_ial m279 d279_261 rfl ht hj
theorem d279_262 : decode cL_law 262 = .ok (.invokevirtual 18, 3) := by decide +kernel
theorem s279_262 {d : Nat} {st : List Value} {σ : am_I} {ρ : am_R} {g : am_J} {τ : am_T} {Q : am_Q} {x0 x1 x2 x3 : Value} {p0 : Nat} {p1 : Int32} {p2 : Int32} (ht : τ.1 p0 = 11) (hs : st.length ≤ 4) : AW (d + 1) 279 262 [x0, x1, x2, x3] (.int p2 :: .int p1 :: .ref p0 :: st) σ ρ g τ Q = AW d 110 0 [.ref p0, .int p1, .int p2] [] σ ρ g τ (fun r9 σ ρ g τ => AW (d + 1) 279 265 [x0, x1, x2, x3] (r9.toList ++ st) σ ρ g τ Q) := aw_cv m279 d279_262 rfl m110 rfl rfl (by decide) en110 ok110 rfl ht hs
theorem d279_265 : decode cL_law 265 = .ok (.aload_n 2, 1) := by decide +kernel
theorem s279_265 {d : Nat} {st : List Value} {σ : am_I} {ρ : am_R} {g : am_J} {τ : am_T} {Q : am_Q} {x0 x1 x3 : Value} {v : Nat} : AW d 279 265 [x0, x1, .ref v, x3] (st) σ ρ g τ Q = AW d 279 266 [x0, x1, .ref v, x3] (.ref v :: st) σ ρ g τ Q := aw_lc m279 d279_265 rfl rfl rfl
theorem d279_266 : decode cL_law 266 = .ok (.aload_n 0, 1) := by decide +kernel
theorem s279_266 {d : Nat} {st : List Value} {σ : am_I} {ρ : am_R} {g : am_J} {τ : am_T} {Q : am_Q} {x1 x2 x3 : Value} {v : Nat} : AW d 279 266 [.ref v, x1, x2, x3] (st) σ ρ g τ Q = AW d 279 267 [.ref v, x1, x2, x3] (.ref v :: st) σ ρ g τ Q := aw_lc m279 d279_266 rfl rfl rfl
theorem d279_267 : decode cL_law 267 = .ok (.iload_n 3, 1) := by decide +kernel
theorem s279_267 {d : Nat} {st : List Value} {σ : am_I} {ρ : am_R} {g : am_J} {τ : am_T} {Q : am_Q} {x0 x1 x2 : Value} {v : Int32} : AW d 279 267 [x0, x1, x2, .int v] (st) σ ρ g τ Q = AW d 279 268 [x0, x1, x2, .int v] (.int v :: st) σ ρ g τ Q := aw_lc m279 d279_267 rfl rfl rfl
theorem d279_268 : decode cL_law 268 = .ok (.iconst 1, 1) := by decide +kernel
theorem s279_268 {d : Nat} {st : List Value} {σ : am_I} {ρ : am_R} {g : am_J} {τ : am_T} {Q : am_Q} {x0 x1 x2 x3 : Value} : AW d 279 268 [x0, x1, x2, x3] (st) σ ρ g τ Q = AW d 279 269 [x0, x1, x2, x3] (.int 1 :: st) σ ρ g τ Q := aw_lc m279 d279_268 rfl rfl rfl
theorem d279_269 : decode cL_law 269 = .ok (.iadd, 1) := by decide +kernel
theorem s279_269 {d : Nat} {st : List Value} {σ : am_I} {ρ : am_R} {g : am_J} {τ : am_T} {Q : am_Q} {x0 x1 x2 x3 : Value} {v w : Int32} : AW d 279 269 [x0, x1, x2, x3] (.int w :: .int v :: st) σ ρ g τ Q = AW d 279 270 [x0, x1, x2, x3] (.int (v + w) :: st) σ ρ g τ Q := aw_lc m279 d279_269 rfl rfl rfl
theorem d279_270 : decode cL_law 270 = .ok (.iaload, 1) := by decide +kernel
theorem s279_270 {d : Nat} {st : List Value} {σ : am_I} {ρ : am_R} {g : am_J} {τ : am_T} {Q : am_Q} {x0 x1 x2 x3 : Value} {a : Nat} {j : Int32} (ht : τ.1 a = 15) (hj : am_inb j (τ.2.1 a) = true) : AW d 279 270 [x0, x1, x2, x3] (.int j :: .ref a :: st) σ ρ g τ Q = AW d 279 271 [x0, x1, x2, x3] (.int (σ a j.toNatClampNeg) :: st) σ ρ g τ Q := aw_ial m279 d279_270 rfl ht hj
theorem d279_271 : decode cL_law 271 = .ok (.aload_n 0, 1) := by decide +kernel
theorem s279_271 {d : Nat} {st : List Value} {σ : am_I} {ρ : am_R} {g : am_J} {τ : am_T} {Q : am_Q} {x1 x2 x3 : Value} {v : Nat} : AW d 279 271 [.ref v, x1, x2, x3] (st) σ ρ g τ Q = AW d 279 272 [.ref v, x1, x2, x3] (.ref v :: st) σ ρ g τ Q := aw_lc m279 d279_271 rfl rfl rfl
theorem d279_272 : decode cL_law 272 = .ok (.iload_n 3, 1) := by decide +kernel
theorem s279_272 {d : Nat} {st : List Value} {σ : am_I} {ρ : am_R} {g : am_J} {τ : am_T} {Q : am_Q} {x0 x1 x2 : Value} {v : Int32} : AW d 279 272 [x0, x1, x2, .int v] (st) σ ρ g τ Q = AW d 279 273 [x0, x1, x2, .int v] (.int v :: st) σ ρ g τ Q := aw_lc m279 d279_272 rfl rfl rfl
theorem d279_273 : decode cL_law 273 = .ok (.iconst 2, 1) := by decide +kernel
theorem s279_273 {d : Nat} {st : List Value} {σ : am_I} {ρ : am_R} {g : am_J} {τ : am_T} {Q : am_Q} {x0 x1 x2 x3 : Value} : AW d 279 273 [x0, x1, x2, x3] (st) σ ρ g τ Q = AW d 279 274 [x0, x1, x2, x3] (.int 2 :: st) σ ρ g τ Q := aw_lc m279 d279_273 rfl rfl rfl
theorem d279_274 : decode cL_law 274 = .ok (.iadd, 1) := by decide +kernel
theorem s279_274 {d : Nat} {st : List Value} {σ : am_I} {ρ : am_R} {g : am_J} {τ : am_T} {Q : am_Q} {x0 x1 x2 x3 : Value} {v w : Int32} : AW d 279 274 [x0, x1, x2, x3] (.int w :: .int v :: st) σ ρ g τ Q = AW d 279 275 [x0, x1, x2, x3] (.int (v + w) :: st) σ ρ g τ Q := aw_lc m279 d279_274 rfl rfl rfl
theorem d279_275 : decode cL_law 275 = .ok (.iaload, 1) := by decide +kernel
theorem s279_275 {d : Nat} {st : List Value} {σ : am_I} {ρ : am_R} {g : am_J} {τ : am_T} {Q : am_Q} {x0 x1 x2 x3 : Value} {a : Nat} {j : Int32} (ht : τ.1 a = 15) (hj : am_inb j (τ.2.1 a) = true) : AW d 279 275 [x0, x1, x2, x3] (.int j :: .ref a :: st) σ ρ g τ Q = AW d 279 276 [x0, x1, x2, x3] (.int (σ a j.toNatClampNeg) :: st) σ ρ g τ Q := aw_ial m279 d279_275 rfl ht hj
theorem d279_276 : decode cL_law 276 = .ok (.invokevirtual 22, 3) := by decide +kernel
theorem s279_276 {d : Nat} {st : List Value} {σ : am_I} {ρ : am_R} {g : am_J} {τ : am_T} {Q : am_Q} {x0 x1 x2 x3 : Value} {p0 : Nat} {p1 : Int32} {p2 : Int32} (ht : τ.1 p0 = 12) (hs : st.length ≤ 4) : AW (d + 1) 279 276 [x0, x1, x2, x3] (.int p2 :: .int p1 :: .ref p0 :: st) σ ρ g τ Q = AW d 172 0 [.ref p0, .int p1, .int p2, am_jk, am_jk] [] σ ρ g τ (fun r9 σ ρ g τ => AW (d + 1) 279 279 [x0, x1, x2, x3] (r9.toList ++ st) σ ρ g τ Q) := aw_cv m279 d279_276 rfl m172 rfl rfl (by decide) en172 ok172 rfl ht hs
theorem d279_279 : decode cL_law 279 = .ok (.if_icmp .eq 1534, 3) := by decide +kernel
theorem s279_279 {d : Nat} {st : List Value} {σ : am_I} {ρ : am_R} {g : am_J} {τ : am_T} {Q : am_Q} {x0 x1 x2 x3 : Value} {v w : Int32} : AW d 279 279 [x0, x1, x2, x3] (.int w :: .int v :: st) σ ρ g τ Q = if v = w then AW d 279 1813 [x0, x1, x2, x3] (st) σ ρ g τ Q else AW d 279 282 [x0, x1, x2, x3] (st) σ ρ g τ Q := aw_br m279 d279_279 rfl rfl rfl
theorem d279_282 : decode cL_law 282 = .ok (.iconst 0, 1) := by decide +kernel
theorem s279_282 {d : Nat} {st : List Value} {σ : am_I} {ρ : am_R} {g : am_J} {τ : am_T} {Q : am_Q} {x0 x1 x2 x3 : Value} : AW d 279 282 [x0, x1, x2, x3] (st) σ ρ g τ Q = AW d 279 283 [x0, x1, x2, x3] (.int 0 :: st) σ ρ g τ Q := aw_lc m279 d279_282 rfl rfl rfl
theorem d279_283 : decode cL_law 283 = .ok (.ireturn, 1) := by decide +kernel
theorem s279_283 {d : Nat} {σ : am_I} {ρ : am_R} {g : am_J} {τ : am_T} {Q : am_Q} {x0 x1 x2 x3 : Value} {v : Int32} (hv : am_b01 v = true) : AW d 279 283 [x0, x1, x2, x3] ([.int v]) σ ρ g τ Q = Q (some (.int v)) σ ρ g τ := aw_rz m279 d279_283 rfl hv
theorem d279_284 : decode cL_law 284 = .ok (.aload_n 1, 1) := by decide +kernel
theorem s279_284 {d : Nat} {st : List Value} {σ : am_I} {ρ : am_R} {g : am_J} {τ : am_T} {Q : am_Q} {x0 x2 x3 : Value} {v : Nat} : AW d 279 284 [x0, .ref v, x2, x3] (st) σ ρ g τ Q = AW d 279 285 [x0, .ref v, x2, x3] (.ref v :: st) σ ρ g τ Q := aw_lc m279 d279_284 rfl rfl rfl
theorem d279_285 : decode cL_law 285 = .ok (.aload_n 0, 1) := by decide +kernel
theorem s279_285 {d : Nat} {st : List Value} {σ : am_I} {ρ : am_R} {g : am_J} {τ : am_T} {Q : am_Q} {x1 x2 x3 : Value} {v : Nat} : AW d 279 285 [.ref v, x1, x2, x3] (st) σ ρ g τ Q = AW d 279 286 [.ref v, x1, x2, x3] (.ref v :: st) σ ρ g τ Q := aw_lc m279 d279_285 rfl rfl rfl
theorem d279_286 : decode cL_law 286 = .ok (.iload_n 3, 1) := by decide +kernel
theorem s279_286 {d : Nat} {st : List Value} {σ : am_I} {ρ : am_R} {g : am_J} {τ : am_T} {Q : am_Q} {x0 x1 x2 : Value} {v : Int32} : AW d 279 286 [x0, x1, x2, .int v] (st) σ ρ g τ Q = AW d 279 287 [x0, x1, x2, .int v] (.int v :: st) σ ρ g τ Q := aw_lc m279 d279_286 rfl rfl rfl
theorem d279_287 : decode cL_law 287 = .ok (.iconst 1, 1) := by decide +kernel
theorem s279_287 {d : Nat} {st : List Value} {σ : am_I} {ρ : am_R} {g : am_J} {τ : am_T} {Q : am_Q} {x0 x1 x2 x3 : Value} : AW d 279 287 [x0, x1, x2, x3] (st) σ ρ g τ Q = AW d 279 288 [x0, x1, x2, x3] (.int 1 :: st) σ ρ g τ Q := aw_lc m279 d279_287 rfl rfl rfl
theorem d279_288 : decode cL_law 288 = .ok (.iadd, 1) := by decide +kernel
theorem s279_288 {d : Nat} {st : List Value} {σ : am_I} {ρ : am_R} {g : am_J} {τ : am_T} {Q : am_Q} {x0 x1 x2 x3 : Value} {v w : Int32} : AW d 279 288 [x0, x1, x2, x3] (.int w :: .int v :: st) σ ρ g τ Q = AW d 279 289 [x0, x1, x2, x3] (.int (v + w) :: st) σ ρ g τ Q := aw_lc m279 d279_288 rfl rfl rfl
theorem d279_289 : decode cL_law 289 = .ok (.iaload, 1) := by decide +kernel
theorem s279_289 {d : Nat} {st : List Value} {σ : am_I} {ρ : am_R} {g : am_J} {τ : am_T} {Q : am_Q} {x0 x1 x2 x3 : Value} {a : Nat} {j : Int32} (ht : τ.1 a = 15) (hj : am_inb j (τ.2.1 a) = true) : AW d 279 289 [x0, x1, x2, x3] (.int j :: .ref a :: st) σ ρ g τ Q = AW d 279 290 [x0, x1, x2, x3] (.int (σ a j.toNatClampNeg) :: st) σ ρ g τ Q := aw_ial m279 d279_289 rfl ht hj
theorem d279_290 : decode cL_law 290 = .ok (.aload_n 0, 1) := by decide +kernel
theorem s279_290 {d : Nat} {st : List Value} {σ : am_I} {ρ : am_R} {g : am_J} {τ : am_T} {Q : am_Q} {x1 x2 x3 : Value} {v : Nat} : AW d 279 290 [.ref v, x1, x2, x3] (st) σ ρ g τ Q = AW d 279 291 [.ref v, x1, x2, x3] (.ref v :: st) σ ρ g τ Q := aw_lc m279 d279_290 rfl rfl rfl
theorem d279_291 : decode cL_law 291 = .ok (.iload_n 3, 1) := by decide +kernel
theorem s279_291 {d : Nat} {st : List Value} {σ : am_I} {ρ : am_R} {g : am_J} {τ : am_T} {Q : am_Q} {x0 x1 x2 : Value} {v : Int32} : AW d 279 291 [x0, x1, x2, .int v] (st) σ ρ g τ Q = AW d 279 292 [x0, x1, x2, .int v] (.int v :: st) σ ρ g τ Q := aw_lc m279 d279_291 rfl rfl rfl
theorem d279_292 : decode cL_law 292 = .ok (.iconst 2, 1) := by decide +kernel
theorem s279_292 {d : Nat} {st : List Value} {σ : am_I} {ρ : am_R} {g : am_J} {τ : am_T} {Q : am_Q} {x0 x1 x2 x3 : Value} : AW d 279 292 [x0, x1, x2, x3] (st) σ ρ g τ Q = AW d 279 293 [x0, x1, x2, x3] (.int 2 :: st) σ ρ g τ Q := aw_lc m279 d279_292 rfl rfl rfl
theorem d279_293 : decode cL_law 293 = .ok (.iadd, 1) := by decide +kernel
theorem s279_293 {d : Nat} {st : List Value} {σ : am_I} {ρ : am_R} {g : am_J} {τ : am_T} {Q : am_Q} {x0 x1 x2 x3 : Value} {v w : Int32} : AW d 279 293 [x0, x1, x2, x3] (.int w :: .int v :: st) σ ρ g τ Q = AW d 279 294 [x0, x1, x2, x3] (.int (v + w) :: st) σ ρ g τ Q := aw_lc m279 d279_293 rfl rfl rfl
theorem d279_294 : decode cL_law 294 = .ok (.iaload, 1) := by decide +kernel
theorem s279_294 {d : Nat} {st : List Value} {σ : am_I} {ρ : am_R} {g : am_J} {τ : am_T} {Q : am_Q} {x0 x1 x2 x3 : Value} {a : Nat} {j : Int32} (ht : τ.1 a = 15) (hj : am_inb j (τ.2.1 a) = true) : AW d 279 294 [x0, x1, x2, x3] (.int j :: .ref a :: st) σ ρ g τ Q = AW d 279 295 [x0, x1, x2, x3] (.int (σ a j.toNatClampNeg) :: st) σ ρ g τ Q := aw_ial m279 d279_294 rfl ht hj
theorem d279_295 : decode cL_law 295 = .ok (.aload_n 0, 1) := by decide +kernel
theorem s279_295 {d : Nat} {st : List Value} {σ : am_I} {ρ : am_R} {g : am_J} {τ : am_T} {Q : am_Q} {x1 x2 x3 : Value} {v : Nat} : AW d 279 295 [.ref v, x1, x2, x3] (st) σ ρ g τ Q = AW d 279 296 [.ref v, x1, x2, x3] (.ref v :: st) σ ρ g τ Q := aw_lc m279 d279_295 rfl rfl rfl
theorem d279_296 : decode cL_law 296 = .ok (.iload_n 3, 1) := by decide +kernel
theorem s279_296 {d : Nat} {st : List Value} {σ : am_I} {ρ : am_R} {g : am_J} {τ : am_T} {Q : am_Q} {x0 x1 x2 : Value} {v : Int32} : AW d 279 296 [x0, x1, x2, .int v] (st) σ ρ g τ Q = AW d 279 297 [x0, x1, x2, .int v] (.int v :: st) σ ρ g τ Q := aw_lc m279 d279_296 rfl rfl rfl
theorem d279_297 : decode cL_law 297 = .ok (.iconst 3, 1) := by decide +kernel
theorem s279_297 {d : Nat} {st : List Value} {σ : am_I} {ρ : am_R} {g : am_J} {τ : am_T} {Q : am_Q} {x0 x1 x2 x3 : Value} : AW d 279 297 [x0, x1, x2, x3] (st) σ ρ g τ Q = AW d 279 298 [x0, x1, x2, x3] (.int 3 :: st) σ ρ g τ Q := aw_lc m279 d279_297 rfl rfl rfl
theorem d279_298 : decode cL_law 298 = .ok (.iadd, 1) := by decide +kernel
theorem s279_298 {d : Nat} {st : List Value} {σ : am_I} {ρ : am_R} {g : am_J} {τ : am_T} {Q : am_Q} {x0 x1 x2 x3 : Value} {v w : Int32} : AW d 279 298 [x0, x1, x2, x3] (.int w :: .int v :: st) σ ρ g τ Q = AW d 279 299 [x0, x1, x2, x3] (.int (v + w) :: st) σ ρ g τ Q := aw_lc m279 d279_298 rfl rfl rfl
theorem d279_299 : decode cL_law 299 = .ok (.iaload, 1) := by decide +kernel
theorem s279_299 {d : Nat} {st : List Value} {σ : am_I} {ρ : am_R} {g : am_J} {τ : am_T} {Q : am_Q} {x0 x1 x2 x3 : Value} {a : Nat} {j : Int32} (ht : τ.1 a = 15) (hj : am_inb j (τ.2.1 a) = true) : AW d 279 299 [x0, x1, x2, x3] (.int j :: .ref a :: st) σ ρ g τ Q = AW d 279 300 [x0, x1, x2, x3] (.int (σ a j.toNatClampNeg) :: st) σ ρ g τ Q := aw_ial m279 d279_299 rfl ht hj
theorem d279_300 : decode cL_law 300 = .ok (.invokevirtual 23, 3) := by decide +kernel
theorem s279_300 {d : Nat} {st : List Value} {σ : am_I} {ρ : am_R} {g : am_J} {τ : am_T} {Q : am_Q} {x0 x1 x2 x3 : Value} {p0 : Nat} {p1 : Int32} {p2 : Int32} {p3 : Int32} (ht : τ.1 p0 = 11) (hs : st.length ≤ 4) : AW (d + 1) 279 300 [x0, x1, x2, x3] (.int p3 :: .int p2 :: .int p1 :: .ref p0 :: st) σ ρ g τ Q = AW d 111 0 [.ref p0, .int p1, .int p2, .int p3, am_jk, am_jk] [] σ ρ g τ (fun r9 σ ρ g τ => AW (d + 1) 279 303 [x0, x1, x2, x3] (r9.toList ++ st) σ ρ g τ Q) := aw_cv m279 d279_300 rfl m111 rfl rfl (by decide) en111 ok111 rfl ht hs
theorem d279_303 : decode cL_law 303 = .ok (.aload_n 2, 1) := by decide +kernel
theorem s279_303 {d : Nat} {st : List Value} {σ : am_I} {ρ : am_R} {g : am_J} {τ : am_T} {Q : am_Q} {x0 x1 x3 : Value} {v : Nat} : AW d 279 303 [x0, x1, .ref v, x3] (st) σ ρ g τ Q = AW d 279 304 [x0, x1, .ref v, x3] (.ref v :: st) σ ρ g τ Q := aw_lc m279 d279_303 rfl rfl rfl
theorem d279_304 : decode cL_law 304 = .ok (.aload_n 0, 1) := by decide +kernel
theorem s279_304 {d : Nat} {st : List Value} {σ : am_I} {ρ : am_R} {g : am_J} {τ : am_T} {Q : am_Q} {x1 x2 x3 : Value} {v : Nat} : AW d 279 304 [.ref v, x1, x2, x3] (st) σ ρ g τ Q = AW d 279 305 [.ref v, x1, x2, x3] (.ref v :: st) σ ρ g τ Q := aw_lc m279 d279_304 rfl rfl rfl
theorem d279_305 : decode cL_law 305 = .ok (.iload_n 3, 1) := by decide +kernel
theorem s279_305 {d : Nat} {st : List Value} {σ : am_I} {ρ : am_R} {g : am_J} {τ : am_T} {Q : am_Q} {x0 x1 x2 : Value} {v : Int32} : AW d 279 305 [x0, x1, x2, .int v] (st) σ ρ g τ Q = AW d 279 306 [x0, x1, x2, .int v] (.int v :: st) σ ρ g τ Q := aw_lc m279 d279_305 rfl rfl rfl
theorem d279_306 : decode cL_law 306 = .ok (.iconst 1, 1) := by decide +kernel
theorem s279_306 {d : Nat} {st : List Value} {σ : am_I} {ρ : am_R} {g : am_J} {τ : am_T} {Q : am_Q} {x0 x1 x2 x3 : Value} : AW d 279 306 [x0, x1, x2, x3] (st) σ ρ g τ Q = AW d 279 307 [x0, x1, x2, x3] (.int 1 :: st) σ ρ g τ Q := aw_lc m279 d279_306 rfl rfl rfl
theorem d279_307 : decode cL_law 307 = .ok (.iadd, 1) := by decide +kernel
theorem s279_307 {d : Nat} {st : List Value} {σ : am_I} {ρ : am_R} {g : am_J} {τ : am_T} {Q : am_Q} {x0 x1 x2 x3 : Value} {v w : Int32} : AW d 279 307 [x0, x1, x2, x3] (.int w :: .int v :: st) σ ρ g τ Q = AW d 279 308 [x0, x1, x2, x3] (.int (v + w) :: st) σ ρ g τ Q := aw_lc m279 d279_307 rfl rfl rfl
theorem d279_308 : decode cL_law 308 = .ok (.iaload, 1) := by decide +kernel
theorem s279_308 {d : Nat} {st : List Value} {σ : am_I} {ρ : am_R} {g : am_J} {τ : am_T} {Q : am_Q} {x0 x1 x2 x3 : Value} {a : Nat} {j : Int32} (ht : τ.1 a = 15) (hj : am_inb j (τ.2.1 a) = true) : AW d 279 308 [x0, x1, x2, x3] (.int j :: .ref a :: st) σ ρ g τ Q = AW d 279 309 [x0, x1, x2, x3] (.int (σ a j.toNatClampNeg) :: st) σ ρ g τ Q := aw_ial m279 d279_308 rfl ht hj
theorem d279_309 : decode cL_law 309 = .ok (.aload_n 0, 1) := by decide +kernel
theorem s279_309 {d : Nat} {st : List Value} {σ : am_I} {ρ : am_R} {g : am_J} {τ : am_T} {Q : am_Q} {x1 x2 x3 : Value} {v : Nat} : AW d 279 309 [.ref v, x1, x2, x3] (st) σ ρ g τ Q = AW d 279 310 [.ref v, x1, x2, x3] (.ref v :: st) σ ρ g τ Q := aw_lc m279 d279_309 rfl rfl rfl
theorem d279_310 : decode cL_law 310 = .ok (.iload_n 3, 1) := by decide +kernel
theorem s279_310 {d : Nat} {st : List Value} {σ : am_I} {ρ : am_R} {g : am_J} {τ : am_T} {Q : am_Q} {x0 x1 x2 : Value} {v : Int32} : AW d 279 310 [x0, x1, x2, .int v] (st) σ ρ g τ Q = AW d 279 311 [x0, x1, x2, .int v] (.int v :: st) σ ρ g τ Q := aw_lc m279 d279_310 rfl rfl rfl
theorem d279_311 : decode cL_law 311 = .ok (.iconst 2, 1) := by decide +kernel
theorem s279_311 {d : Nat} {st : List Value} {σ : am_I} {ρ : am_R} {g : am_J} {τ : am_T} {Q : am_Q} {x0 x1 x2 x3 : Value} : AW d 279 311 [x0, x1, x2, x3] (st) σ ρ g τ Q = AW d 279 312 [x0, x1, x2, x3] (.int 2 :: st) σ ρ g τ Q := aw_lc m279 d279_311 rfl rfl rfl
theorem d279_312 : decode cL_law 312 = .ok (.iadd, 1) := by decide +kernel
theorem s279_312 {d : Nat} {st : List Value} {σ : am_I} {ρ : am_R} {g : am_J} {τ : am_T} {Q : am_Q} {x0 x1 x2 x3 : Value} {v w : Int32} : AW d 279 312 [x0, x1, x2, x3] (.int w :: .int v :: st) σ ρ g τ Q = AW d 279 313 [x0, x1, x2, x3] (.int (v + w) :: st) σ ρ g τ Q := aw_lc m279 d279_312 rfl rfl rfl
theorem d279_313 : decode cL_law 313 = .ok (.iaload, 1) := by decide +kernel
theorem s279_313 {d : Nat} {st : List Value} {σ : am_I} {ρ : am_R} {g : am_J} {τ : am_T} {Q : am_Q} {x0 x1 x2 x3 : Value} {a : Nat} {j : Int32} (ht : τ.1 a = 15) (hj : am_inb j (τ.2.1 a) = true) : AW d 279 313 [x0, x1, x2, x3] (.int j :: .ref a :: st) σ ρ g τ Q = AW d 279 314 [x0, x1, x2, x3] (.int (σ a j.toNatClampNeg) :: st) σ ρ g τ Q := aw_ial m279 d279_313 rfl ht hj
theorem d279_314 : decode cL_law 314 = .ok (.aload_n 0, 1) := by decide +kernel
theorem s279_314 {d : Nat} {st : List Value} {σ : am_I} {ρ : am_R} {g : am_J} {τ : am_T} {Q : am_Q} {x1 x2 x3 : Value} {v : Nat} : AW d 279 314 [.ref v, x1, x2, x3] (st) σ ρ g τ Q = AW d 279 315 [.ref v, x1, x2, x3] (.ref v :: st) σ ρ g τ Q := aw_lc m279 d279_314 rfl rfl rfl
theorem d279_315 : decode cL_law 315 = .ok (.iload_n 3, 1) := by decide +kernel
theorem s279_315 {d : Nat} {st : List Value} {σ : am_I} {ρ : am_R} {g : am_J} {τ : am_T} {Q : am_Q} {x0 x1 x2 : Value} {v : Int32} : AW d 279 315 [x0, x1, x2, .int v] (st) σ ρ g τ Q = AW d 279 316 [x0, x1, x2, .int v] (.int v :: st) σ ρ g τ Q := aw_lc m279 d279_315 rfl rfl rfl
theorem d279_316 : decode cL_law 316 = .ok (.iconst 3, 1) := by decide +kernel
theorem s279_316 {d : Nat} {st : List Value} {σ : am_I} {ρ : am_R} {g : am_J} {τ : am_T} {Q : am_Q} {x0 x1 x2 x3 : Value} : AW d 279 316 [x0, x1, x2, x3] (st) σ ρ g τ Q = AW d 279 317 [x0, x1, x2, x3] (.int 3 :: st) σ ρ g τ Q := aw_lc m279 d279_316 rfl rfl rfl
theorem d279_317 : decode cL_law 317 = .ok (.iadd, 1) := by decide +kernel
theorem s279_317 {d : Nat} {st : List Value} {σ : am_I} {ρ : am_R} {g : am_J} {τ : am_T} {Q : am_Q} {x0 x1 x2 x3 : Value} {v w : Int32} : AW d 279 317 [x0, x1, x2, x3] (.int w :: .int v :: st) σ ρ g τ Q = AW d 279 318 [x0, x1, x2, x3] (.int (v + w) :: st) σ ρ g τ Q := aw_lc m279 d279_317 rfl rfl rfl
theorem d279_318 : decode cL_law 318 = .ok (.iaload, 1) := by decide +kernel
theorem s279_318 {d : Nat} {st : List Value} {σ : am_I} {ρ : am_R} {g : am_J} {τ : am_T} {Q : am_Q} {x0 x1 x2 x3 : Value} {a : Nat} {j : Int32} (ht : τ.1 a = 15) (hj : am_inb j (τ.2.1 a) = true) : AW d 279 318 [x0, x1, x2, x3] (.int j :: .ref a :: st) σ ρ g τ Q = AW d 279 319 [x0, x1, x2, x3] (.int (σ a j.toNatClampNeg) :: st) σ ρ g τ Q := aw_ial m279 d279_318 rfl ht hj
theorem d279_319 : decode cL_law 319 = .ok (.invokevirtual 27, 3) := by decide +kernel
theorem s279_319 {d : Nat} {st : List Value} {σ : am_I} {ρ : am_R} {g : am_J} {τ : am_T} {Q : am_Q} {x0 x1 x2 x3 : Value} {p0 : Nat} {p1 : Int32} {p2 : Int32} {p3 : Int32} (ht : τ.1 p0 = 12) (hs : st.length ≤ 4) : AW (d + 1) 279 319 [x0, x1, x2, x3] (.int p3 :: .int p2 :: .int p1 :: .ref p0 :: st) σ ρ g τ Q = AW d 173 0 [.ref p0, .int p1, .int p2, .int p3, am_jk] [] σ ρ g τ (fun r9 σ ρ g τ => AW (d + 1) 279 322 [x0, x1, x2, x3] (r9.toList ++ st) σ ρ g τ Q) := aw_cv m279 d279_319 rfl m173 rfl rfl (by decide) en173 ok173 rfl ht hs
theorem d279_322 : decode cL_law 322 = .ok (.if_icmp .eq 1491, 3) := by decide +kernel
theorem s279_322 {d : Nat} {st : List Value} {σ : am_I} {ρ : am_R} {g : am_J} {τ : am_T} {Q : am_Q} {x0 x1 x2 x3 : Value} {v w : Int32} : AW d 279 322 [x0, x1, x2, x3] (.int w :: .int v :: st) σ ρ g τ Q = if v = w then AW d 279 1813 [x0, x1, x2, x3] (st) σ ρ g τ Q else AW d 279 325 [x0, x1, x2, x3] (st) σ ρ g τ Q := aw_br m279 d279_322 rfl rfl rfl
theorem d279_325 : decode cL_law 325 = .ok (.iconst 0, 1) := by decide +kernel
theorem s279_325 {d : Nat} {st : List Value} {σ : am_I} {ρ : am_R} {g : am_J} {τ : am_T} {Q : am_Q} {x0 x1 x2 x3 : Value} : AW d 279 325 [x0, x1, x2, x3] (st) σ ρ g τ Q = AW d 279 326 [x0, x1, x2, x3] (.int 0 :: st) σ ρ g τ Q := aw_lc m279 d279_325 rfl rfl rfl
theorem d279_326 : decode cL_law 326 = .ok (.ireturn, 1) := by decide +kernel
theorem s279_326 {d : Nat} {σ : am_I} {ρ : am_R} {g : am_J} {τ : am_T} {Q : am_Q} {x0 x1 x2 x3 : Value} {v : Int32} (hv : am_b01 v = true) : AW d 279 326 [x0, x1, x2, x3] ([.int v]) σ ρ g τ Q = Q (some (.int v)) σ ρ g τ := aw_rz m279 d279_326 rfl hv
theorem d279_327 : decode cL_law 327 = .ok (.aload_n 1, 1) := by decide +kernel
theorem s279_327 {d : Nat} {st : List Value} {σ : am_I} {ρ : am_R} {g : am_J} {τ : am_T} {Q : am_Q} {x0 x2 x3 : Value} {v : Nat} : AW d 279 327 [x0, .ref v, x2, x3] (st) σ ρ g τ Q = AW d 279 328 [x0, .ref v, x2, x3] (.ref v :: st) σ ρ g τ Q := aw_lc m279 d279_327 rfl rfl rfl
theorem d279_328 : decode cL_law 328 = .ok (.aload_n 0, 1) := by decide +kernel
theorem s279_328 {d : Nat} {st : List Value} {σ : am_I} {ρ : am_R} {g : am_J} {τ : am_T} {Q : am_Q} {x1 x2 x3 : Value} {v : Nat} : AW d 279 328 [.ref v, x1, x2, x3] (st) σ ρ g τ Q = AW d 279 329 [.ref v, x1, x2, x3] (.ref v :: st) σ ρ g τ Q := aw_lc m279 d279_328 rfl rfl rfl
theorem d279_329 : decode cL_law 329 = .ok (.iload_n 3, 1) := by decide +kernel
theorem s279_329 {d : Nat} {st : List Value} {σ : am_I} {ρ : am_R} {g : am_J} {τ : am_T} {Q : am_Q} {x0 x1 x2 : Value} {v : Int32} : AW d 279 329 [x0, x1, x2, .int v] (st) σ ρ g τ Q = AW d 279 330 [x0, x1, x2, .int v] (.int v :: st) σ ρ g τ Q := aw_lc m279 d279_329 rfl rfl rfl
theorem d279_330 : decode cL_law 330 = .ok (.iconst 1, 1) := by decide +kernel
theorem s279_330 {d : Nat} {st : List Value} {σ : am_I} {ρ : am_R} {g : am_J} {τ : am_T} {Q : am_Q} {x0 x1 x2 x3 : Value} : AW d 279 330 [x0, x1, x2, x3] (st) σ ρ g τ Q = AW d 279 331 [x0, x1, x2, x3] (.int 1 :: st) σ ρ g τ Q := aw_lc m279 d279_330 rfl rfl rfl
theorem d279_331 : decode cL_law 331 = .ok (.iadd, 1) := by decide +kernel
theorem s279_331 {d : Nat} {st : List Value} {σ : am_I} {ρ : am_R} {g : am_J} {τ : am_T} {Q : am_Q} {x0 x1 x2 x3 : Value} {v w : Int32} : AW d 279 331 [x0, x1, x2, x3] (.int w :: .int v :: st) σ ρ g τ Q = AW d 279 332 [x0, x1, x2, x3] (.int (v + w) :: st) σ ρ g τ Q := aw_lc m279 d279_331 rfl rfl rfl
theorem d279_332 : decode cL_law 332 = .ok (.iaload, 1) := by decide +kernel
theorem s279_332 {d : Nat} {st : List Value} {σ : am_I} {ρ : am_R} {g : am_J} {τ : am_T} {Q : am_Q} {x0 x1 x2 x3 : Value} {a : Nat} {j : Int32} (ht : τ.1 a = 15) (hj : am_inb j (τ.2.1 a) = true) : AW d 279 332 [x0, x1, x2, x3] (.int j :: .ref a :: st) σ ρ g τ Q = AW d 279 333 [x0, x1, x2, x3] (.int (σ a j.toNatClampNeg) :: st) σ ρ g τ Q := aw_ial m279 d279_332 rfl ht hj
theorem d279_333 : decode cL_law 333 = .ok (.aload_n 0, 1) := by decide +kernel
theorem s279_333 {d : Nat} {st : List Value} {σ : am_I} {ρ : am_R} {g : am_J} {τ : am_T} {Q : am_Q} {x1 x2 x3 : Value} {v : Nat} : AW d 279 333 [.ref v, x1, x2, x3] (st) σ ρ g τ Q = AW d 279 334 [.ref v, x1, x2, x3] (.ref v :: st) σ ρ g τ Q := aw_lc m279 d279_333 rfl rfl rfl
theorem d279_334 : decode cL_law 334 = .ok (.iload_n 3, 1) := by decide +kernel
theorem s279_334 {d : Nat} {st : List Value} {σ : am_I} {ρ : am_R} {g : am_J} {τ : am_T} {Q : am_Q} {x0 x1 x2 : Value} {v : Int32} : AW d 279 334 [x0, x1, x2, .int v] (st) σ ρ g τ Q = AW d 279 335 [x0, x1, x2, .int v] (.int v :: st) σ ρ g τ Q := aw_lc m279 d279_334 rfl rfl rfl
theorem d279_335 : decode cL_law 335 = .ok (.iconst 2, 1) := by decide +kernel
theorem s279_335 {d : Nat} {st : List Value} {σ : am_I} {ρ : am_R} {g : am_J} {τ : am_T} {Q : am_Q} {x0 x1 x2 x3 : Value} : AW d 279 335 [x0, x1, x2, x3] (st) σ ρ g τ Q = AW d 279 336 [x0, x1, x2, x3] (.int 2 :: st) σ ρ g τ Q := aw_lc m279 d279_335 rfl rfl rfl
theorem d279_336 : decode cL_law 336 = .ok (.iadd, 1) := by decide +kernel
theorem s279_336 {d : Nat} {st : List Value} {σ : am_I} {ρ : am_R} {g : am_J} {τ : am_T} {Q : am_Q} {x0 x1 x2 x3 : Value} {v w : Int32} : AW d 279 336 [x0, x1, x2, x3] (.int w :: .int v :: st) σ ρ g τ Q = AW d 279 337 [x0, x1, x2, x3] (.int (v + w) :: st) σ ρ g τ Q := aw_lc m279 d279_336 rfl rfl rfl
theorem d279_337 : decode cL_law 337 = .ok (.iaload, 1) := by decide +kernel
theorem s279_337 {d : Nat} {st : List Value} {σ : am_I} {ρ : am_R} {g : am_J} {τ : am_T} {Q : am_Q} {x0 x1 x2 x3 : Value} {a : Nat} {j : Int32} (ht : τ.1 a = 15) (hj : am_inb j (τ.2.1 a) = true) : AW d 279 337 [x0, x1, x2, x3] (.int j :: .ref a :: st) σ ρ g τ Q = AW d 279 338 [x0, x1, x2, x3] (.int (σ a j.toNatClampNeg) :: st) σ ρ g τ Q := aw_ial m279 d279_337 rfl ht hj
theorem d279_338 : decode cL_law 338 = .ok (.aload_n 0, 1) := by decide +kernel
theorem s279_338 {d : Nat} {st : List Value} {σ : am_I} {ρ : am_R} {g : am_J} {τ : am_T} {Q : am_Q} {x1 x2 x3 : Value} {v : Nat} : AW d 279 338 [.ref v, x1, x2, x3] (st) σ ρ g τ Q = AW d 279 339 [.ref v, x1, x2, x3] (.ref v :: st) σ ρ g τ Q := aw_lc m279 d279_338 rfl rfl rfl
theorem d279_339 : decode cL_law 339 = .ok (.iload_n 3, 1) := by decide +kernel
theorem s279_339 {d : Nat} {st : List Value} {σ : am_I} {ρ : am_R} {g : am_J} {τ : am_T} {Q : am_Q} {x0 x1 x2 : Value} {v : Int32} : AW d 279 339 [x0, x1, x2, .int v] (st) σ ρ g τ Q = AW d 279 340 [x0, x1, x2, .int v] (.int v :: st) σ ρ g τ Q := aw_lc m279 d279_339 rfl rfl rfl
theorem d279_340 : decode cL_law 340 = .ok (.iconst 3, 1) := by decide +kernel
theorem s279_340 {d : Nat} {st : List Value} {σ : am_I} {ρ : am_R} {g : am_J} {τ : am_T} {Q : am_Q} {x0 x1 x2 x3 : Value} : AW d 279 340 [x0, x1, x2, x3] (st) σ ρ g τ Q = AW d 279 341 [x0, x1, x2, x3] (.int 3 :: st) σ ρ g τ Q := aw_lc m279 d279_340 rfl rfl rfl
theorem d279_341 : decode cL_law 341 = .ok (.iadd, 1) := by decide +kernel
theorem s279_341 {d : Nat} {st : List Value} {σ : am_I} {ρ : am_R} {g : am_J} {τ : am_T} {Q : am_Q} {x0 x1 x2 x3 : Value} {v w : Int32} : AW d 279 341 [x0, x1, x2, x3] (.int w :: .int v :: st) σ ρ g τ Q = AW d 279 342 [x0, x1, x2, x3] (.int (v + w) :: st) σ ρ g τ Q := aw_lc m279 d279_341 rfl rfl rfl
theorem d279_342 : decode cL_law 342 = .ok (.iaload, 1) := by decide +kernel
theorem s279_342 {d : Nat} {st : List Value} {σ : am_I} {ρ : am_R} {g : am_J} {τ : am_T} {Q : am_Q} {x0 x1 x2 x3 : Value} {a : Nat} {j : Int32} (ht : τ.1 a = 15) (hj : am_inb j (τ.2.1 a) = true) : AW d 279 342 [x0, x1, x2, x3] (.int j :: .ref a :: st) σ ρ g τ Q = AW d 279 343 [x0, x1, x2, x3] (.int (σ a j.toNatClampNeg) :: st) σ ρ g τ Q := aw_ial m279 d279_342 rfl ht hj
theorem d279_343 : decode cL_law 343 = .ok (.invokevirtual 28, 3) := by decide +kernel
theorem s279_343 {d : Nat} {st : List Value} {σ : am_I} {ρ : am_R} {g : am_J} {τ : am_T} {Q : am_Q} {x0 x1 x2 x3 : Value} {p0 : Nat} {p1 : Int32} {p2 : Int32} {p3 : Int32} (ht : τ.1 p0 = 11) (hs : st.length ≤ 4) : AW (d + 1) 279 343 [x0, x1, x2, x3] (.int p3 :: .int p2 :: .int p1 :: .ref p0 :: st) σ ρ g τ Q = AW d 112 0 [.ref p0, .int p1, .int p2, .int p3, am_jk, am_jk] [] σ ρ g τ (fun r9 σ ρ g τ => AW (d + 1) 279 346 [x0, x1, x2, x3] (r9.toList ++ st) σ ρ g τ Q) := aw_cv m279 d279_343 rfl m112 rfl rfl (by decide) en112 ok112 rfl ht hs
theorem d279_346 : decode cL_law 346 = .ok (.aload_n 2, 1) := by decide +kernel
theorem s279_346 {d : Nat} {st : List Value} {σ : am_I} {ρ : am_R} {g : am_J} {τ : am_T} {Q : am_Q} {x0 x1 x3 : Value} {v : Nat} : AW d 279 346 [x0, x1, .ref v, x3] (st) σ ρ g τ Q = AW d 279 347 [x0, x1, .ref v, x3] (.ref v :: st) σ ρ g τ Q := aw_lc m279 d279_346 rfl rfl rfl
theorem d279_347 : decode cL_law 347 = .ok (.aload_n 0, 1) := by decide +kernel
theorem s279_347 {d : Nat} {st : List Value} {σ : am_I} {ρ : am_R} {g : am_J} {τ : am_T} {Q : am_Q} {x1 x2 x3 : Value} {v : Nat} : AW d 279 347 [.ref v, x1, x2, x3] (st) σ ρ g τ Q = AW d 279 348 [.ref v, x1, x2, x3] (.ref v :: st) σ ρ g τ Q := aw_lc m279 d279_347 rfl rfl rfl
theorem d279_348 : decode cL_law 348 = .ok (.iload_n 3, 1) := by decide +kernel
theorem s279_348 {d : Nat} {st : List Value} {σ : am_I} {ρ : am_R} {g : am_J} {τ : am_T} {Q : am_Q} {x0 x1 x2 : Value} {v : Int32} : AW d 279 348 [x0, x1, x2, .int v] (st) σ ρ g τ Q = AW d 279 349 [x0, x1, x2, .int v] (.int v :: st) σ ρ g τ Q := aw_lc m279 d279_348 rfl rfl rfl
theorem d279_349 : decode cL_law 349 = .ok (.iconst 1, 1) := by decide +kernel
theorem s279_349 {d : Nat} {st : List Value} {σ : am_I} {ρ : am_R} {g : am_J} {τ : am_T} {Q : am_Q} {x0 x1 x2 x3 : Value} : AW d 279 349 [x0, x1, x2, x3] (st) σ ρ g τ Q = AW d 279 350 [x0, x1, x2, x3] (.int 1 :: st) σ ρ g τ Q := aw_lc m279 d279_349 rfl rfl rfl
theorem d279_350 : decode cL_law 350 = .ok (.iadd, 1) := by decide +kernel
theorem s279_350 {d : Nat} {st : List Value} {σ : am_I} {ρ : am_R} {g : am_J} {τ : am_T} {Q : am_Q} {x0 x1 x2 x3 : Value} {v w : Int32} : AW d 279 350 [x0, x1, x2, x3] (.int w :: .int v :: st) σ ρ g τ Q = AW d 279 351 [x0, x1, x2, x3] (.int (v + w) :: st) σ ρ g τ Q := aw_lc m279 d279_350 rfl rfl rfl
theorem d279_351 : decode cL_law 351 = .ok (.iaload, 1) := by decide +kernel
theorem s279_351 {d : Nat} {st : List Value} {σ : am_I} {ρ : am_R} {g : am_J} {τ : am_T} {Q : am_Q} {x0 x1 x2 x3 : Value} {a : Nat} {j : Int32} (ht : τ.1 a = 15) (hj : am_inb j (τ.2.1 a) = true) : AW d 279 351 [x0, x1, x2, x3] (.int j :: .ref a :: st) σ ρ g τ Q = AW d 279 352 [x0, x1, x2, x3] (.int (σ a j.toNatClampNeg) :: st) σ ρ g τ Q := aw_ial m279 d279_351 rfl ht hj
theorem d279_352 : decode cL_law 352 = .ok (.aload_n 0, 1) := by decide +kernel
theorem s279_352 {d : Nat} {st : List Value} {σ : am_I} {ρ : am_R} {g : am_J} {τ : am_T} {Q : am_Q} {x1 x2 x3 : Value} {v : Nat} : AW d 279 352 [.ref v, x1, x2, x3] (st) σ ρ g τ Q = AW d 279 353 [.ref v, x1, x2, x3] (.ref v :: st) σ ρ g τ Q := aw_lc m279 d279_352 rfl rfl rfl
theorem d279_353 : decode cL_law 353 = .ok (.iload_n 3, 1) := by decide +kernel
theorem s279_353 {d : Nat} {st : List Value} {σ : am_I} {ρ : am_R} {g : am_J} {τ : am_T} {Q : am_Q} {x0 x1 x2 : Value} {v : Int32} : AW d 279 353 [x0, x1, x2, .int v] (st) σ ρ g τ Q = AW d 279 354 [x0, x1, x2, .int v] (.int v :: st) σ ρ g τ Q := aw_lc m279 d279_353 rfl rfl rfl
theorem d279_354 : decode cL_law 354 = .ok (.iconst 2, 1) := by decide +kernel
theorem s279_354 {d : Nat} {st : List Value} {σ : am_I} {ρ : am_R} {g : am_J} {τ : am_T} {Q : am_Q} {x0 x1 x2 x3 : Value} : AW d 279 354 [x0, x1, x2, x3] (st) σ ρ g τ Q = AW d 279 355 [x0, x1, x2, x3] (.int 2 :: st) σ ρ g τ Q := aw_lc m279 d279_354 rfl rfl rfl
theorem d279_355 : decode cL_law 355 = .ok (.iadd, 1) := by decide +kernel
theorem s279_355 {d : Nat} {st : List Value} {σ : am_I} {ρ : am_R} {g : am_J} {τ : am_T} {Q : am_Q} {x0 x1 x2 x3 : Value} {v w : Int32} : AW d 279 355 [x0, x1, x2, x3] (.int w :: .int v :: st) σ ρ g τ Q = AW d 279 356 [x0, x1, x2, x3] (.int (v + w) :: st) σ ρ g τ Q := aw_lc m279 d279_355 rfl rfl rfl
theorem d279_356 : decode cL_law 356 = .ok (.iaload, 1) := by decide +kernel
theorem s279_356 {d : Nat} {st : List Value} {σ : am_I} {ρ : am_R} {g : am_J} {τ : am_T} {Q : am_Q} {x0 x1 x2 x3 : Value} {a : Nat} {j : Int32} (ht : τ.1 a = 15) (hj : am_inb j (τ.2.1 a) = true) : AW d 279 356 [x0, x1, x2, x3] (.int j :: .ref a :: st) σ ρ g τ Q = AW d 279 357 [x0, x1, x2, x3] (.int (σ a j.toNatClampNeg) :: st) σ ρ g τ Q := aw_ial m279 d279_356 rfl ht hj
theorem d279_357 : decode cL_law 357 = .ok (.aload_n 0, 1) := by decide +kernel
theorem s279_357 {d : Nat} {st : List Value} {σ : am_I} {ρ : am_R} {g : am_J} {τ : am_T} {Q : am_Q} {x1 x2 x3 : Value} {v : Nat} : AW d 279 357 [.ref v, x1, x2, x3] (st) σ ρ g τ Q = AW d 279 358 [.ref v, x1, x2, x3] (.ref v :: st) σ ρ g τ Q := aw_lc m279 d279_357 rfl rfl rfl
theorem d279_358 : decode cL_law 358 = .ok (.iload_n 3, 1) := by decide +kernel
theorem s279_358 {d : Nat} {st : List Value} {σ : am_I} {ρ : am_R} {g : am_J} {τ : am_T} {Q : am_Q} {x0 x1 x2 : Value} {v : Int32} : AW d 279 358 [x0, x1, x2, .int v] (st) σ ρ g τ Q = AW d 279 359 [x0, x1, x2, .int v] (.int v :: st) σ ρ g τ Q := aw_lc m279 d279_358 rfl rfl rfl
theorem d279_359 : decode cL_law 359 = .ok (.iconst 3, 1) := by decide +kernel
theorem s279_359 {d : Nat} {st : List Value} {σ : am_I} {ρ : am_R} {g : am_J} {τ : am_T} {Q : am_Q} {x0 x1 x2 x3 : Value} : AW d 279 359 [x0, x1, x2, x3] (st) σ ρ g τ Q = AW d 279 360 [x0, x1, x2, x3] (.int 3 :: st) σ ρ g τ Q := aw_lc m279 d279_359 rfl rfl rfl
theorem d279_360 : decode cL_law 360 = .ok (.iadd, 1) := by decide +kernel
theorem s279_360 {d : Nat} {st : List Value} {σ : am_I} {ρ : am_R} {g : am_J} {τ : am_T} {Q : am_Q} {x0 x1 x2 x3 : Value} {v w : Int32} : AW d 279 360 [x0, x1, x2, x3] (.int w :: .int v :: st) σ ρ g τ Q = AW d 279 361 [x0, x1, x2, x3] (.int (v + w) :: st) σ ρ g τ Q := aw_lc m279 d279_360 rfl rfl rfl
theorem d279_361 : decode cL_law 361 = .ok (.iaload, 1) := by decide +kernel
theorem s279_361 {d : Nat} {st : List Value} {σ : am_I} {ρ : am_R} {g : am_J} {τ : am_T} {Q : am_Q} {x0 x1 x2 x3 : Value} {a : Nat} {j : Int32} (ht : τ.1 a = 15) (hj : am_inb j (τ.2.1 a) = true) : AW d 279 361 [x0, x1, x2, x3] (.int j :: .ref a :: st) σ ρ g τ Q = AW d 279 362 [x0, x1, x2, x3] (.int (σ a j.toNatClampNeg) :: st) σ ρ g τ Q := aw_ial m279 d279_361 rfl ht hj
theorem d279_362 : decode cL_law 362 = .ok (.invokevirtual 31, 3) := by decide +kernel
theorem s279_362 {d : Nat} {st : List Value} {σ : am_I} {ρ : am_R} {g : am_J} {τ : am_T} {Q : am_Q} {x0 x1 x2 x3 : Value} {p0 : Nat} {p1 : Int32} {p2 : Int32} {p3 : Int32} (ht : τ.1 p0 = 12) (hs : st.length ≤ 4) : AW (d + 1) 279 362 [x0, x1, x2, x3] (.int p3 :: .int p2 :: .int p1 :: .ref p0 :: st) σ ρ g τ Q = AW d 174 0 [.ref p0, .int p1, .int p2, .int p3, am_jk, am_jk, am_jk] [] σ ρ g τ (fun r9 σ ρ g τ => AW (d + 1) 279 365 [x0, x1, x2, x3] (r9.toList ++ st) σ ρ g τ Q) := aw_cv m279 d279_362 rfl m174 rfl rfl (by decide) en174 ok174 rfl ht hs
theorem d279_365 : decode cL_law 365 = .ok (.if_icmp .eq 1448, 3) := by decide +kernel
theorem s279_365 {d : Nat} {st : List Value} {σ : am_I} {ρ : am_R} {g : am_J} {τ : am_T} {Q : am_Q} {x0 x1 x2 x3 : Value} {v w : Int32} : AW d 279 365 [x0, x1, x2, x3] (.int w :: .int v :: st) σ ρ g τ Q = if v = w then AW d 279 1813 [x0, x1, x2, x3] (st) σ ρ g τ Q else AW d 279 368 [x0, x1, x2, x3] (st) σ ρ g τ Q := aw_br m279 d279_365 rfl rfl rfl
theorem d279_368 : decode cL_law 368 = .ok (.iconst 0, 1) := by decide +kernel
theorem s279_368 {d : Nat} {st : List Value} {σ : am_I} {ρ : am_R} {g : am_J} {τ : am_T} {Q : am_Q} {x0 x1 x2 x3 : Value} : AW d 279 368 [x0, x1, x2, x3] (st) σ ρ g τ Q = AW d 279 369 [x0, x1, x2, x3] (.int 0 :: st) σ ρ g τ Q := aw_lc m279 d279_368 rfl rfl rfl
theorem d279_369 : decode cL_law 369 = .ok (.ireturn, 1) := by decide +kernel
theorem s279_369 {d : Nat} {σ : am_I} {ρ : am_R} {g : am_J} {τ : am_T} {Q : am_Q} {x0 x1 x2 x3 : Value} {v : Int32} (hv : am_b01 v = true) : AW d 279 369 [x0, x1, x2, x3] ([.int v]) σ ρ g τ Q = Q (some (.int v)) σ ρ g τ := aw_rz m279 d279_369 rfl hv
theorem d279_370 : decode cL_law 370 = .ok (.aload_n 1, 1) := by decide +kernel
theorem s279_370 {d : Nat} {st : List Value} {σ : am_I} {ρ : am_R} {g : am_J} {τ : am_T} {Q : am_Q} {x0 x2 x3 : Value} {v : Nat} : AW d 279 370 [x0, .ref v, x2, x3] (st) σ ρ g τ Q = AW d 279 371 [x0, .ref v, x2, x3] (.ref v :: st) σ ρ g τ Q := aw_lc m279 d279_370 rfl rfl rfl
theorem d279_371 : decode cL_law 371 = .ok (.aload_n 0, 1) := by decide +kernel
theorem s279_371 {d : Nat} {st : List Value} {σ : am_I} {ρ : am_R} {g : am_J} {τ : am_T} {Q : am_Q} {x1 x2 x3 : Value} {v : Nat} : AW d 279 371 [.ref v, x1, x2, x3] (st) σ ρ g τ Q = AW d 279 372 [.ref v, x1, x2, x3] (.ref v :: st) σ ρ g τ Q := aw_lc m279 d279_371 rfl rfl rfl
theorem d279_372 : decode cL_law 372 = .ok (.iload_n 3, 1) := by decide +kernel
theorem s279_372 {d : Nat} {st : List Value} {σ : am_I} {ρ : am_R} {g : am_J} {τ : am_T} {Q : am_Q} {x0 x1 x2 : Value} {v : Int32} : AW d 279 372 [x0, x1, x2, .int v] (st) σ ρ g τ Q = AW d 279 373 [x0, x1, x2, .int v] (.int v :: st) σ ρ g τ Q := aw_lc m279 d279_372 rfl rfl rfl
theorem d279_373 : decode cL_law 373 = .ok (.iconst 1, 1) := by decide +kernel
theorem s279_373 {d : Nat} {st : List Value} {σ : am_I} {ρ : am_R} {g : am_J} {τ : am_T} {Q : am_Q} {x0 x1 x2 x3 : Value} : AW d 279 373 [x0, x1, x2, x3] (st) σ ρ g τ Q = AW d 279 374 [x0, x1, x2, x3] (.int 1 :: st) σ ρ g τ Q := aw_lc m279 d279_373 rfl rfl rfl
theorem d279_374 : decode cL_law 374 = .ok (.iadd, 1) := by decide +kernel
theorem s279_374 {d : Nat} {st : List Value} {σ : am_I} {ρ : am_R} {g : am_J} {τ : am_T} {Q : am_Q} {x0 x1 x2 x3 : Value} {v w : Int32} : AW d 279 374 [x0, x1, x2, x3] (.int w :: .int v :: st) σ ρ g τ Q = AW d 279 375 [x0, x1, x2, x3] (.int (v + w) :: st) σ ρ g τ Q := aw_lc m279 d279_374 rfl rfl rfl
theorem d279_375 : decode cL_law 375 = .ok (.iaload, 1) := by decide +kernel
theorem s279_375 {d : Nat} {st : List Value} {σ : am_I} {ρ : am_R} {g : am_J} {τ : am_T} {Q : am_Q} {x0 x1 x2 x3 : Value} {a : Nat} {j : Int32} (ht : τ.1 a = 15) (hj : am_inb j (τ.2.1 a) = true) : AW d 279 375 [x0, x1, x2, x3] (.int j :: .ref a :: st) σ ρ g τ Q = AW d 279 376 [x0, x1, x2, x3] (.int (σ a j.toNatClampNeg) :: st) σ ρ g τ Q := aw_ial m279 d279_375 rfl ht hj
theorem d279_376 : decode cL_law 376 = .ok (.aload_n 0, 1) := by decide +kernel
theorem s279_376 {d : Nat} {st : List Value} {σ : am_I} {ρ : am_R} {g : am_J} {τ : am_T} {Q : am_Q} {x1 x2 x3 : Value} {v : Nat} : AW d 279 376 [.ref v, x1, x2, x3] (st) σ ρ g τ Q = AW d 279 377 [.ref v, x1, x2, x3] (.ref v :: st) σ ρ g τ Q := aw_lc m279 d279_376 rfl rfl rfl
theorem d279_377 : decode cL_law 377 = .ok (.iload_n 3, 1) := by decide +kernel
theorem s279_377 {d : Nat} {st : List Value} {σ : am_I} {ρ : am_R} {g : am_J} {τ : am_T} {Q : am_Q} {x0 x1 x2 : Value} {v : Int32} : AW d 279 377 [x0, x1, x2, .int v] (st) σ ρ g τ Q = AW d 279 378 [x0, x1, x2, .int v] (.int v :: st) σ ρ g τ Q := aw_lc m279 d279_377 rfl rfl rfl
theorem d279_378 : decode cL_law 378 = .ok (.iconst 2, 1) := by decide +kernel
theorem s279_378 {d : Nat} {st : List Value} {σ : am_I} {ρ : am_R} {g : am_J} {τ : am_T} {Q : am_Q} {x0 x1 x2 x3 : Value} : AW d 279 378 [x0, x1, x2, x3] (st) σ ρ g τ Q = AW d 279 379 [x0, x1, x2, x3] (.int 2 :: st) σ ρ g τ Q := aw_lc m279 d279_378 rfl rfl rfl
theorem d279_379 : decode cL_law 379 = .ok (.iadd, 1) := by decide +kernel
theorem s279_379 {d : Nat} {st : List Value} {σ : am_I} {ρ : am_R} {g : am_J} {τ : am_T} {Q : am_Q} {x0 x1 x2 x3 : Value} {v w : Int32} : AW d 279 379 [x0, x1, x2, x3] (.int w :: .int v :: st) σ ρ g τ Q = AW d 279 380 [x0, x1, x2, x3] (.int (v + w) :: st) σ ρ g τ Q := aw_lc m279 d279_379 rfl rfl rfl
theorem d279_380 : decode cL_law 380 = .ok (.iaload, 1) := by decide +kernel
theorem s279_380 {d : Nat} {st : List Value} {σ : am_I} {ρ : am_R} {g : am_J} {τ : am_T} {Q : am_Q} {x0 x1 x2 x3 : Value} {a : Nat} {j : Int32} (ht : τ.1 a = 15) (hj : am_inb j (τ.2.1 a) = true) : AW d 279 380 [x0, x1, x2, x3] (.int j :: .ref a :: st) σ ρ g τ Q = AW d 279 381 [x0, x1, x2, x3] (.int (σ a j.toNatClampNeg) :: st) σ ρ g τ Q := aw_ial m279 d279_380 rfl ht hj
theorem d279_381 : decode cL_law 381 = .ok (.invokevirtual 32, 3) := by decide +kernel
theorem s279_381 {d : Nat} {st : List Value} {σ : am_I} {ρ : am_R} {g : am_J} {τ : am_T} {Q : am_Q} {x0 x1 x2 x3 : Value} {p0 : Nat} {p1 : Int32} {p2 : Int32} (ht : τ.1 p0 = 11) (hs : st.length ≤ 4) : AW (d + 1) 279 381 [x0, x1, x2, x3] (.int p2 :: .int p1 :: .ref p0 :: st) σ ρ g τ Q = AW d 113 0 [.ref p0, .int p1, .int p2, am_jk] [] σ ρ g τ (fun r9 σ ρ g τ => AW (d + 1) 279 384 [x0, x1, x2, x3] (r9.toList ++ st) σ ρ g τ Q) := aw_cv m279 d279_381 rfl m113 rfl rfl (by decide) en113 ok113 rfl ht hs
theorem d279_384 : decode cL_law 384 = .ok (.aload_n 2, 1) := by decide +kernel
theorem s279_384 {d : Nat} {st : List Value} {σ : am_I} {ρ : am_R} {g : am_J} {τ : am_T} {Q : am_Q} {x0 x1 x3 : Value} {v : Nat} : AW d 279 384 [x0, x1, .ref v, x3] (st) σ ρ g τ Q = AW d 279 385 [x0, x1, .ref v, x3] (.ref v :: st) σ ρ g τ Q := aw_lc m279 d279_384 rfl rfl rfl
theorem d279_385 : decode cL_law 385 = .ok (.aload_n 0, 1) := by decide +kernel
theorem s279_385 {d : Nat} {st : List Value} {σ : am_I} {ρ : am_R} {g : am_J} {τ : am_T} {Q : am_Q} {x1 x2 x3 : Value} {v : Nat} : AW d 279 385 [.ref v, x1, x2, x3] (st) σ ρ g τ Q = AW d 279 386 [.ref v, x1, x2, x3] (.ref v :: st) σ ρ g τ Q := aw_lc m279 d279_385 rfl rfl rfl
theorem d279_386 : decode cL_law 386 = .ok (.iload_n 3, 1) := by decide +kernel
theorem s279_386 {d : Nat} {st : List Value} {σ : am_I} {ρ : am_R} {g : am_J} {τ : am_T} {Q : am_Q} {x0 x1 x2 : Value} {v : Int32} : AW d 279 386 [x0, x1, x2, .int v] (st) σ ρ g τ Q = AW d 279 387 [x0, x1, x2, .int v] (.int v :: st) σ ρ g τ Q := aw_lc m279 d279_386 rfl rfl rfl
theorem d279_387 : decode cL_law 387 = .ok (.iconst 1, 1) := by decide +kernel
theorem s279_387 {d : Nat} {st : List Value} {σ : am_I} {ρ : am_R} {g : am_J} {τ : am_T} {Q : am_Q} {x0 x1 x2 x3 : Value} : AW d 279 387 [x0, x1, x2, x3] (st) σ ρ g τ Q = AW d 279 388 [x0, x1, x2, x3] (.int 1 :: st) σ ρ g τ Q := aw_lc m279 d279_387 rfl rfl rfl
theorem d279_388 : decode cL_law 388 = .ok (.iadd, 1) := by decide +kernel
theorem s279_388 {d : Nat} {st : List Value} {σ : am_I} {ρ : am_R} {g : am_J} {τ : am_T} {Q : am_Q} {x0 x1 x2 x3 : Value} {v w : Int32} : AW d 279 388 [x0, x1, x2, x3] (.int w :: .int v :: st) σ ρ g τ Q = AW d 279 389 [x0, x1, x2, x3] (.int (v + w) :: st) σ ρ g τ Q := aw_lc m279 d279_388 rfl rfl rfl
theorem d279_389 : decode cL_law 389 = .ok (.iaload, 1) := by decide +kernel
theorem s279_389 {d : Nat} {st : List Value} {σ : am_I} {ρ : am_R} {g : am_J} {τ : am_T} {Q : am_Q} {x0 x1 x2 x3 : Value} {a : Nat} {j : Int32} (ht : τ.1 a = 15) (hj : am_inb j (τ.2.1 a) = true) : AW d 279 389 [x0, x1, x2, x3] (.int j :: .ref a :: st) σ ρ g τ Q = AW d 279 390 [x0, x1, x2, x3] (.int (σ a j.toNatClampNeg) :: st) σ ρ g τ Q := aw_ial m279 d279_389 rfl ht hj
theorem d279_390 : decode cL_law 390 = .ok (.aload_n 0, 1) := by decide +kernel
theorem s279_390 {d : Nat} {st : List Value} {σ : am_I} {ρ : am_R} {g : am_J} {τ : am_T} {Q : am_Q} {x1 x2 x3 : Value} {v : Nat} : AW d 279 390 [.ref v, x1, x2, x3] (st) σ ρ g τ Q = AW d 279 391 [.ref v, x1, x2, x3] (.ref v :: st) σ ρ g τ Q := aw_lc m279 d279_390 rfl rfl rfl
theorem d279_391 : decode cL_law 391 = .ok (.iload_n 3, 1) := by decide +kernel
theorem s279_391 {d : Nat} {st : List Value} {σ : am_I} {ρ : am_R} {g : am_J} {τ : am_T} {Q : am_Q} {x0 x1 x2 : Value} {v : Int32} : AW d 279 391 [x0, x1, x2, .int v] (st) σ ρ g τ Q = AW d 279 392 [x0, x1, x2, .int v] (.int v :: st) σ ρ g τ Q := aw_lc m279 d279_391 rfl rfl rfl
theorem d279_392 : decode cL_law 392 = .ok (.iconst 2, 1) := by decide +kernel
theorem s279_392 {d : Nat} {st : List Value} {σ : am_I} {ρ : am_R} {g : am_J} {τ : am_T} {Q : am_Q} {x0 x1 x2 x3 : Value} : AW d 279 392 [x0, x1, x2, x3] (st) σ ρ g τ Q = AW d 279 393 [x0, x1, x2, x3] (.int 2 :: st) σ ρ g τ Q := aw_lc m279 d279_392 rfl rfl rfl
theorem d279_393 : decode cL_law 393 = .ok (.iadd, 1) := by decide +kernel
theorem s279_393 {d : Nat} {st : List Value} {σ : am_I} {ρ : am_R} {g : am_J} {τ : am_T} {Q : am_Q} {x0 x1 x2 x3 : Value} {v w : Int32} : AW d 279 393 [x0, x1, x2, x3] (.int w :: .int v :: st) σ ρ g τ Q = AW d 279 394 [x0, x1, x2, x3] (.int (v + w) :: st) σ ρ g τ Q := aw_lc m279 d279_393 rfl rfl rfl
theorem d279_394 : decode cL_law 394 = .ok (.iaload, 1) := by decide +kernel
theorem s279_394 {d : Nat} {st : List Value} {σ : am_I} {ρ : am_R} {g : am_J} {τ : am_T} {Q : am_Q} {x0 x1 x2 x3 : Value} {a : Nat} {j : Int32} (ht : τ.1 a = 15) (hj : am_inb j (τ.2.1 a) = true) : AW d 279 394 [x0, x1, x2, x3] (.int j :: .ref a :: st) σ ρ g τ Q = AW d 279 395 [x0, x1, x2, x3] (.int (σ a j.toNatClampNeg) :: st) σ ρ g τ Q := aw_ial m279 d279_394 rfl ht hj
theorem d279_395 : decode cL_law 395 = .ok (.invokevirtual 35, 3) := by decide +kernel
theorem s279_395 {d : Nat} {st : List Value} {σ : am_I} {ρ : am_R} {g : am_J} {τ : am_T} {Q : am_Q} {x0 x1 x2 x3 : Value} {p0 : Nat} {p1 : Int32} {p2 : Int32} (ht : τ.1 p0 = 12) (hs : st.length ≤ 4) : AW (d + 1) 279 395 [x0, x1, x2, x3] (.int p2 :: .int p1 :: .ref p0 :: st) σ ρ g τ Q = AW d 175 0 [.ref p0, .int p1, .int p2, am_jk] [] σ ρ g τ (fun r9 σ ρ g τ => AW (d + 1) 279 398 [x0, x1, x2, x3] (r9.toList ++ st) σ ρ g τ Q) := aw_cv m279 d279_395 rfl m175 rfl rfl (by decide) en175 ok175 rfl ht hs
theorem d279_398 : decode cL_law 398 = .ok (.if_icmp .eq 1415, 3) := by decide +kernel
theorem s279_398 {d : Nat} {st : List Value} {σ : am_I} {ρ : am_R} {g : am_J} {τ : am_T} {Q : am_Q} {x0 x1 x2 x3 : Value} {v w : Int32} : AW d 279 398 [x0, x1, x2, x3] (.int w :: .int v :: st) σ ρ g τ Q = if v = w then AW d 279 1813 [x0, x1, x2, x3] (st) σ ρ g τ Q else AW d 279 401 [x0, x1, x2, x3] (st) σ ρ g τ Q := aw_br m279 d279_398 rfl rfl rfl
theorem d279_401 : decode cL_law 401 = .ok (.iconst 0, 1) := by decide +kernel
theorem s279_401 {d : Nat} {st : List Value} {σ : am_I} {ρ : am_R} {g : am_J} {τ : am_T} {Q : am_Q} {x0 x1 x2 x3 : Value} : AW d 279 401 [x0, x1, x2, x3] (st) σ ρ g τ Q = AW d 279 402 [x0, x1, x2, x3] (.int 0 :: st) σ ρ g τ Q := aw_lc m279 d279_401 rfl rfl rfl
theorem d279_402 : decode cL_law 402 = .ok (.ireturn, 1) := by decide +kernel
theorem s279_402 {d : Nat} {σ : am_I} {ρ : am_R} {g : am_J} {τ : am_T} {Q : am_Q} {x0 x1 x2 x3 : Value} {v : Int32} (hv : am_b01 v = true) : AW d 279 402 [x0, x1, x2, x3] ([.int v]) σ ρ g τ Q = Q (some (.int v)) σ ρ g τ := aw_rz m279 d279_402 rfl hv
theorem d279_403 : decode cL_law 403 = .ok (.aload_n 1, 1) := by decide +kernel
theorem s279_403 {d : Nat} {st : List Value} {σ : am_I} {ρ : am_R} {g : am_J} {τ : am_T} {Q : am_Q} {x0 x2 x3 : Value} {v : Nat} : AW d 279 403 [x0, .ref v, x2, x3] (st) σ ρ g τ Q = AW d 279 404 [x0, .ref v, x2, x3] (.ref v :: st) σ ρ g τ Q := aw_lc m279 d279_403 rfl rfl rfl
theorem d279_404 : decode cL_law 404 = .ok (.aload_n 0, 1) := by decide +kernel
theorem s279_404 {d : Nat} {st : List Value} {σ : am_I} {ρ : am_R} {g : am_J} {τ : am_T} {Q : am_Q} {x1 x2 x3 : Value} {v : Nat} : AW d 279 404 [.ref v, x1, x2, x3] (st) σ ρ g τ Q = AW d 279 405 [.ref v, x1, x2, x3] (.ref v :: st) σ ρ g τ Q := aw_lc m279 d279_404 rfl rfl rfl
theorem d279_405 : decode cL_law 405 = .ok (.iload_n 3, 1) := by decide +kernel
theorem s279_405 {d : Nat} {st : List Value} {σ : am_I} {ρ : am_R} {g : am_J} {τ : am_T} {Q : am_Q} {x0 x1 x2 : Value} {v : Int32} : AW d 279 405 [x0, x1, x2, .int v] (st) σ ρ g τ Q = AW d 279 406 [x0, x1, x2, .int v] (.int v :: st) σ ρ g τ Q := aw_lc m279 d279_405 rfl rfl rfl
theorem d279_406 : decode cL_law 406 = .ok (.iconst 1, 1) := by decide +kernel
theorem s279_406 {d : Nat} {st : List Value} {σ : am_I} {ρ : am_R} {g : am_J} {τ : am_T} {Q : am_Q} {x0 x1 x2 x3 : Value} : AW d 279 406 [x0, x1, x2, x3] (st) σ ρ g τ Q = AW d 279 407 [x0, x1, x2, x3] (.int 1 :: st) σ ρ g τ Q := aw_lc m279 d279_406 rfl rfl rfl
theorem d279_407 : decode cL_law 407 = .ok (.iadd, 1) := by decide +kernel
theorem s279_407 {d : Nat} {st : List Value} {σ : am_I} {ρ : am_R} {g : am_J} {τ : am_T} {Q : am_Q} {x0 x1 x2 x3 : Value} {v w : Int32} : AW d 279 407 [x0, x1, x2, x3] (.int w :: .int v :: st) σ ρ g τ Q = AW d 279 408 [x0, x1, x2, x3] (.int (v + w) :: st) σ ρ g τ Q := aw_lc m279 d279_407 rfl rfl rfl
theorem d279_408 : decode cL_law 408 = .ok (.iaload, 1) := by decide +kernel
theorem s279_408 {d : Nat} {st : List Value} {σ : am_I} {ρ : am_R} {g : am_J} {τ : am_T} {Q : am_Q} {x0 x1 x2 x3 : Value} {a : Nat} {j : Int32} (ht : τ.1 a = 15) (hj : am_inb j (τ.2.1 a) = true) : AW d 279 408 [x0, x1, x2, x3] (.int j :: .ref a :: st) σ ρ g τ Q = AW d 279 409 [x0, x1, x2, x3] (.int (σ a j.toNatClampNeg) :: st) σ ρ g τ Q := aw_ial m279 d279_408 rfl ht hj
theorem d279_409 : decode cL_law 409 = .ok (.aload_n 0, 1) := by decide +kernel
theorem s279_409 {d : Nat} {st : List Value} {σ : am_I} {ρ : am_R} {g : am_J} {τ : am_T} {Q : am_Q} {x1 x2 x3 : Value} {v : Nat} : AW d 279 409 [.ref v, x1, x2, x3] (st) σ ρ g τ Q = AW d 279 410 [.ref v, x1, x2, x3] (.ref v :: st) σ ρ g τ Q := aw_lc m279 d279_409 rfl rfl rfl
theorem d279_410 : decode cL_law 410 = .ok (.iload_n 3, 1) := by decide +kernel
theorem s279_410 {d : Nat} {st : List Value} {σ : am_I} {ρ : am_R} {g : am_J} {τ : am_T} {Q : am_Q} {x0 x1 x2 : Value} {v : Int32} : AW d 279 410 [x0, x1, x2, .int v] (st) σ ρ g τ Q = AW d 279 411 [x0, x1, x2, .int v] (.int v :: st) σ ρ g τ Q := aw_lc m279 d279_410 rfl rfl rfl
theorem d279_411 : decode cL_law 411 = .ok (.iconst 2, 1) := by decide +kernel
theorem s279_411 {d : Nat} {st : List Value} {σ : am_I} {ρ : am_R} {g : am_J} {τ : am_T} {Q : am_Q} {x0 x1 x2 x3 : Value} : AW d 279 411 [x0, x1, x2, x3] (st) σ ρ g τ Q = AW d 279 412 [x0, x1, x2, x3] (.int 2 :: st) σ ρ g τ Q := aw_lc m279 d279_411 rfl rfl rfl
theorem d279_412 : decode cL_law 412 = .ok (.iadd, 1) := by decide +kernel
theorem s279_412 {d : Nat} {st : List Value} {σ : am_I} {ρ : am_R} {g : am_J} {τ : am_T} {Q : am_Q} {x0 x1 x2 x3 : Value} {v w : Int32} : AW d 279 412 [x0, x1, x2, x3] (.int w :: .int v :: st) σ ρ g τ Q = AW d 279 413 [x0, x1, x2, x3] (.int (v + w) :: st) σ ρ g τ Q := aw_lc m279 d279_412 rfl rfl rfl
theorem d279_413 : decode cL_law 413 = .ok (.iaload, 1) := by decide +kernel
theorem s279_413 {d : Nat} {st : List Value} {σ : am_I} {ρ : am_R} {g : am_J} {τ : am_T} {Q : am_Q} {x0 x1 x2 x3 : Value} {a : Nat} {j : Int32} (ht : τ.1 a = 15) (hj : am_inb j (τ.2.1 a) = true) : AW d 279 413 [x0, x1, x2, x3] (.int j :: .ref a :: st) σ ρ g τ Q = AW d 279 414 [x0, x1, x2, x3] (.int (σ a j.toNatClampNeg) :: st) σ ρ g τ Q := aw_ial m279 d279_413 rfl ht hj
theorem d279_414 : decode cL_law 414 = .ok (.invokevirtual 36, 3) := by decide +kernel
theorem s279_414 {d : Nat} {st : List Value} {σ : am_I} {ρ : am_R} {g : am_J} {τ : am_T} {Q : am_Q} {x0 x1 x2 x3 : Value} {p0 : Nat} {p1 : Int32} {p2 : Int32} (ht : τ.1 p0 = 11) (hs : st.length ≤ 4) : AW (d + 1) 279 414 [x0, x1, x2, x3] (.int p2 :: .int p1 :: .ref p0 :: st) σ ρ g τ Q = AW d 114 0 [.ref p0, .int p1, .int p2, am_jk] [] σ ρ g τ (fun r9 σ ρ g τ => AW (d + 1) 279 417 [x0, x1, x2, x3] (r9.toList ++ st) σ ρ g τ Q) := aw_cv m279 d279_414 rfl m114 rfl rfl (by decide) en114 ok114 rfl ht hs
theorem d279_417 : decode cL_law 417 = .ok (.aload_n 2, 1) := by decide +kernel
theorem s279_417 {d : Nat} {st : List Value} {σ : am_I} {ρ : am_R} {g : am_J} {τ : am_T} {Q : am_Q} {x0 x1 x3 : Value} {v : Nat} : AW d 279 417 [x0, x1, .ref v, x3] (st) σ ρ g τ Q = AW d 279 418 [x0, x1, .ref v, x3] (.ref v :: st) σ ρ g τ Q := aw_lc m279 d279_417 rfl rfl rfl
theorem d279_418 : decode cL_law 418 = .ok (.aload_n 0, 1) := by decide +kernel
theorem s279_418 {d : Nat} {st : List Value} {σ : am_I} {ρ : am_R} {g : am_J} {τ : am_T} {Q : am_Q} {x1 x2 x3 : Value} {v : Nat} : AW d 279 418 [.ref v, x1, x2, x3] (st) σ ρ g τ Q = AW d 279 419 [.ref v, x1, x2, x3] (.ref v :: st) σ ρ g τ Q := aw_lc m279 d279_418 rfl rfl rfl
theorem d279_419 : decode cL_law 419 = .ok (.iload_n 3, 1) := by decide +kernel
theorem s279_419 {d : Nat} {st : List Value} {σ : am_I} {ρ : am_R} {g : am_J} {τ : am_T} {Q : am_Q} {x0 x1 x2 : Value} {v : Int32} : AW d 279 419 [x0, x1, x2, .int v] (st) σ ρ g τ Q = AW d 279 420 [x0, x1, x2, .int v] (.int v :: st) σ ρ g τ Q := aw_lc m279 d279_419 rfl rfl rfl
theorem d279_420 : decode cL_law 420 = .ok (.iconst 1, 1) := by decide +kernel
theorem s279_420 {d : Nat} {st : List Value} {σ : am_I} {ρ : am_R} {g : am_J} {τ : am_T} {Q : am_Q} {x0 x1 x2 x3 : Value} : AW d 279 420 [x0, x1, x2, x3] (st) σ ρ g τ Q = AW d 279 421 [x0, x1, x2, x3] (.int 1 :: st) σ ρ g τ Q := aw_lc m279 d279_420 rfl rfl rfl
theorem d279_421 : decode cL_law 421 = .ok (.iadd, 1) := by decide +kernel
theorem s279_421 {d : Nat} {st : List Value} {σ : am_I} {ρ : am_R} {g : am_J} {τ : am_T} {Q : am_Q} {x0 x1 x2 x3 : Value} {v w : Int32} : AW d 279 421 [x0, x1, x2, x3] (.int w :: .int v :: st) σ ρ g τ Q = AW d 279 422 [x0, x1, x2, x3] (.int (v + w) :: st) σ ρ g τ Q := aw_lc m279 d279_421 rfl rfl rfl
theorem d279_422 : decode cL_law 422 = .ok (.iaload, 1) := by decide +kernel
theorem s279_422 {d : Nat} {st : List Value} {σ : am_I} {ρ : am_R} {g : am_J} {τ : am_T} {Q : am_Q} {x0 x1 x2 x3 : Value} {a : Nat} {j : Int32} (ht : τ.1 a = 15) (hj : am_inb j (τ.2.1 a) = true) : AW d 279 422 [x0, x1, x2, x3] (.int j :: .ref a :: st) σ ρ g τ Q = AW d 279 423 [x0, x1, x2, x3] (.int (σ a j.toNatClampNeg) :: st) σ ρ g τ Q := aw_ial m279 d279_422 rfl ht hj
theorem d279_423 : decode cL_law 423 = .ok (.aload_n 0, 1) := by decide +kernel
theorem s279_423 {d : Nat} {st : List Value} {σ : am_I} {ρ : am_R} {g : am_J} {τ : am_T} {Q : am_Q} {x1 x2 x3 : Value} {v : Nat} : AW d 279 423 [.ref v, x1, x2, x3] (st) σ ρ g τ Q = AW d 279 424 [.ref v, x1, x2, x3] (.ref v :: st) σ ρ g τ Q := aw_lc m279 d279_423 rfl rfl rfl
theorem d279_424 : decode cL_law 424 = .ok (.iload_n 3, 1) := by decide +kernel
theorem s279_424 {d : Nat} {st : List Value} {σ : am_I} {ρ : am_R} {g : am_J} {τ : am_T} {Q : am_Q} {x0 x1 x2 : Value} {v : Int32} : AW d 279 424 [x0, x1, x2, .int v] (st) σ ρ g τ Q = AW d 279 425 [x0, x1, x2, .int v] (.int v :: st) σ ρ g τ Q := aw_lc m279 d279_424 rfl rfl rfl
theorem d279_425 : decode cL_law 425 = .ok (.iconst 2, 1) := by decide +kernel
theorem s279_425 {d : Nat} {st : List Value} {σ : am_I} {ρ : am_R} {g : am_J} {τ : am_T} {Q : am_Q} {x0 x1 x2 x3 : Value} : AW d 279 425 [x0, x1, x2, x3] (st) σ ρ g τ Q = AW d 279 426 [x0, x1, x2, x3] (.int 2 :: st) σ ρ g τ Q := aw_lc m279 d279_425 rfl rfl rfl
theorem d279_426 : decode cL_law 426 = .ok (.iadd, 1) := by decide +kernel
theorem s279_426 {d : Nat} {st : List Value} {σ : am_I} {ρ : am_R} {g : am_J} {τ : am_T} {Q : am_Q} {x0 x1 x2 x3 : Value} {v w : Int32} : AW d 279 426 [x0, x1, x2, x3] (.int w :: .int v :: st) σ ρ g τ Q = AW d 279 427 [x0, x1, x2, x3] (.int (v + w) :: st) σ ρ g τ Q := aw_lc m279 d279_426 rfl rfl rfl
theorem d279_427 : decode cL_law 427 = .ok (.iaload, 1) := by decide +kernel
theorem s279_427 {d : Nat} {st : List Value} {σ : am_I} {ρ : am_R} {g : am_J} {τ : am_T} {Q : am_Q} {x0 x1 x2 x3 : Value} {a : Nat} {j : Int32} (ht : τ.1 a = 15) (hj : am_inb j (τ.2.1 a) = true) : AW d 279 427 [x0, x1, x2, x3] (.int j :: .ref a :: st) σ ρ g τ Q = AW d 279 428 [x0, x1, x2, x3] (.int (σ a j.toNatClampNeg) :: st) σ ρ g τ Q := aw_ial m279 d279_427 rfl ht hj
theorem d279_428 : decode cL_law 428 = .ok (.invokevirtual 39, 3) := by decide +kernel
theorem s279_428 {d : Nat} {st : List Value} {σ : am_I} {ρ : am_R} {g : am_J} {τ : am_T} {Q : am_Q} {x0 x1 x2 x3 : Value} {p0 : Nat} {p1 : Int32} {p2 : Int32} (ht : τ.1 p0 = 12) (hs : st.length ≤ 4) : AW (d + 1) 279 428 [x0, x1, x2, x3] (.int p2 :: .int p1 :: .ref p0 :: st) σ ρ g τ Q = AW d 176 0 [.ref p0, .int p1, .int p2, am_jk] [] σ ρ g τ (fun r9 σ ρ g τ => AW (d + 1) 279 431 [x0, x1, x2, x3] (r9.toList ++ st) σ ρ g τ Q) := aw_cv m279 d279_428 rfl m176 rfl rfl (by decide) en176 ok176 rfl ht hs
theorem d279_431 : decode cL_law 431 = .ok (.if_icmp .eq 1382, 3) := by decide +kernel
theorem s279_431 {d : Nat} {st : List Value} {σ : am_I} {ρ : am_R} {g : am_J} {τ : am_T} {Q : am_Q} {x0 x1 x2 x3 : Value} {v w : Int32} : AW d 279 431 [x0, x1, x2, x3] (.int w :: .int v :: st) σ ρ g τ Q = if v = w then AW d 279 1813 [x0, x1, x2, x3] (st) σ ρ g τ Q else AW d 279 434 [x0, x1, x2, x3] (st) σ ρ g τ Q := aw_br m279 d279_431 rfl rfl rfl
theorem d279_434 : decode cL_law 434 = .ok (.iconst 0, 1) := by decide +kernel
theorem s279_434 {d : Nat} {st : List Value} {σ : am_I} {ρ : am_R} {g : am_J} {τ : am_T} {Q : am_Q} {x0 x1 x2 x3 : Value} : AW d 279 434 [x0, x1, x2, x3] (st) σ ρ g τ Q = AW d 279 435 [x0, x1, x2, x3] (.int 0 :: st) σ ρ g τ Q := aw_lc m279 d279_434 rfl rfl rfl
theorem d279_435 : decode cL_law 435 = .ok (.ireturn, 1) := by decide +kernel
theorem s279_435 {d : Nat} {σ : am_I} {ρ : am_R} {g : am_J} {τ : am_T} {Q : am_Q} {x0 x1 x2 x3 : Value} {v : Int32} (hv : am_b01 v = true) : AW d 279 435 [x0, x1, x2, x3] ([.int v]) σ ρ g τ Q = Q (some (.int v)) σ ρ g τ := aw_rz m279 d279_435 rfl hv
theorem d279_436 : decode cL_law 436 = .ok (.aload_n 1, 1) := by decide +kernel
theorem s279_436 {d : Nat} {st : List Value} {σ : am_I} {ρ : am_R} {g : am_J} {τ : am_T} {Q : am_Q} {x0 x2 x3 : Value} {v : Nat} : AW d 279 436 [x0, .ref v, x2, x3] (st) σ ρ g τ Q = AW d 279 437 [x0, .ref v, x2, x3] (.ref v :: st) σ ρ g τ Q := aw_lc m279 d279_436 rfl rfl rfl
theorem d279_437 : decode cL_law 437 = .ok (.aload_n 0, 1) := by decide +kernel
theorem s279_437 {d : Nat} {st : List Value} {σ : am_I} {ρ : am_R} {g : am_J} {τ : am_T} {Q : am_Q} {x1 x2 x3 : Value} {v : Nat} : AW d 279 437 [.ref v, x1, x2, x3] (st) σ ρ g τ Q = AW d 279 438 [.ref v, x1, x2, x3] (.ref v :: st) σ ρ g τ Q := aw_lc m279 d279_437 rfl rfl rfl
theorem d279_438 : decode cL_law 438 = .ok (.iload_n 3, 1) := by decide +kernel
theorem s279_438 {d : Nat} {st : List Value} {σ : am_I} {ρ : am_R} {g : am_J} {τ : am_T} {Q : am_Q} {x0 x1 x2 : Value} {v : Int32} : AW d 279 438 [x0, x1, x2, .int v] (st) σ ρ g τ Q = AW d 279 439 [x0, x1, x2, .int v] (.int v :: st) σ ρ g τ Q := aw_lc m279 d279_438 rfl rfl rfl
theorem d279_439 : decode cL_law 439 = .ok (.iconst 1, 1) := by decide +kernel
theorem s279_439 {d : Nat} {st : List Value} {σ : am_I} {ρ : am_R} {g : am_J} {τ : am_T} {Q : am_Q} {x0 x1 x2 x3 : Value} : AW d 279 439 [x0, x1, x2, x3] (st) σ ρ g τ Q = AW d 279 440 [x0, x1, x2, x3] (.int 1 :: st) σ ρ g τ Q := aw_lc m279 d279_439 rfl rfl rfl
theorem d279_440 : decode cL_law 440 = .ok (.iadd, 1) := by decide +kernel
theorem s279_440 {d : Nat} {st : List Value} {σ : am_I} {ρ : am_R} {g : am_J} {τ : am_T} {Q : am_Q} {x0 x1 x2 x3 : Value} {v w : Int32} : AW d 279 440 [x0, x1, x2, x3] (.int w :: .int v :: st) σ ρ g τ Q = AW d 279 441 [x0, x1, x2, x3] (.int (v + w) :: st) σ ρ g τ Q := aw_lc m279 d279_440 rfl rfl rfl
theorem d279_441 : decode cL_law 441 = .ok (.iaload, 1) := by decide +kernel
theorem s279_441 {d : Nat} {st : List Value} {σ : am_I} {ρ : am_R} {g : am_J} {τ : am_T} {Q : am_Q} {x0 x1 x2 x3 : Value} {a : Nat} {j : Int32} (ht : τ.1 a = 15) (hj : am_inb j (τ.2.1 a) = true) : AW d 279 441 [x0, x1, x2, x3] (.int j :: .ref a :: st) σ ρ g τ Q = AW d 279 442 [x0, x1, x2, x3] (.int (σ a j.toNatClampNeg) :: st) σ ρ g τ Q := aw_ial m279 d279_441 rfl ht hj
theorem d279_442 : decode cL_law 442 = .ok (.aload_n 0, 1) := by decide +kernel
theorem s279_442 {d : Nat} {st : List Value} {σ : am_I} {ρ : am_R} {g : am_J} {τ : am_T} {Q : am_Q} {x1 x2 x3 : Value} {v : Nat} : AW d 279 442 [.ref v, x1, x2, x3] (st) σ ρ g τ Q = AW d 279 443 [.ref v, x1, x2, x3] (.ref v :: st) σ ρ g τ Q := aw_lc m279 d279_442 rfl rfl rfl
theorem d279_443 : decode cL_law 443 = .ok (.iload_n 3, 1) := by decide +kernel
theorem s279_443 {d : Nat} {st : List Value} {σ : am_I} {ρ : am_R} {g : am_J} {τ : am_T} {Q : am_Q} {x0 x1 x2 : Value} {v : Int32} : AW d 279 443 [x0, x1, x2, .int v] (st) σ ρ g τ Q = AW d 279 444 [x0, x1, x2, .int v] (.int v :: st) σ ρ g τ Q := aw_lc m279 d279_443 rfl rfl rfl
theorem d279_444 : decode cL_law 444 = .ok (.iconst 2, 1) := by decide +kernel
theorem s279_444 {d : Nat} {st : List Value} {σ : am_I} {ρ : am_R} {g : am_J} {τ : am_T} {Q : am_Q} {x0 x1 x2 x3 : Value} : AW d 279 444 [x0, x1, x2, x3] (st) σ ρ g τ Q = AW d 279 445 [x0, x1, x2, x3] (.int 2 :: st) σ ρ g τ Q := aw_lc m279 d279_444 rfl rfl rfl
theorem d279_445 : decode cL_law 445 = .ok (.iadd, 1) := by decide +kernel
theorem s279_445 {d : Nat} {st : List Value} {σ : am_I} {ρ : am_R} {g : am_J} {τ : am_T} {Q : am_Q} {x0 x1 x2 x3 : Value} {v w : Int32} : AW d 279 445 [x0, x1, x2, x3] (.int w :: .int v :: st) σ ρ g τ Q = AW d 279 446 [x0, x1, x2, x3] (.int (v + w) :: st) σ ρ g τ Q := aw_lc m279 d279_445 rfl rfl rfl
theorem d279_446 : decode cL_law 446 = .ok (.iaload, 1) := by decide +kernel
theorem s279_446 {d : Nat} {st : List Value} {σ : am_I} {ρ : am_R} {g : am_J} {τ : am_T} {Q : am_Q} {x0 x1 x2 x3 : Value} {a : Nat} {j : Int32} (ht : τ.1 a = 15) (hj : am_inb j (τ.2.1 a) = true) : AW d 279 446 [x0, x1, x2, x3] (.int j :: .ref a :: st) σ ρ g τ Q = AW d 279 447 [x0, x1, x2, x3] (.int (σ a j.toNatClampNeg) :: st) σ ρ g τ Q := aw_ial m279 d279_446 rfl ht hj
theorem d279_447 : decode cL_law 447 = .ok (.invokevirtual 40, 3) := by decide +kernel
theorem s279_447 {d : Nat} {st : List Value} {σ : am_I} {ρ : am_R} {g : am_J} {τ : am_T} {Q : am_Q} {x0 x1 x2 x3 : Value} {p0 : Nat} {p1 : Int32} {p2 : Int32} (ht : τ.1 p0 = 11) (hs : st.length ≤ 4) : AW (d + 1) 279 447 [x0, x1, x2, x3] (.int p2 :: .int p1 :: .ref p0 :: st) σ ρ g τ Q = AW d 115 0 [.ref p0, .int p1, .int p2, am_jk] [] σ ρ g τ (fun r9 σ ρ g τ => AW (d + 1) 279 450 [x0, x1, x2, x3] (r9.toList ++ st) σ ρ g τ Q) := aw_cv m279 d279_447 rfl m115 rfl rfl (by decide) en115 ok115 rfl ht hs
theorem d279_450 : decode cL_law 450 = .ok (.aload_n 2, 1) := by decide +kernel
theorem s279_450 {d : Nat} {st : List Value} {σ : am_I} {ρ : am_R} {g : am_J} {τ : am_T} {Q : am_Q} {x0 x1 x3 : Value} {v : Nat} : AW d 279 450 [x0, x1, .ref v, x3] (st) σ ρ g τ Q = AW d 279 451 [x0, x1, .ref v, x3] (.ref v :: st) σ ρ g τ Q := aw_lc m279 d279_450 rfl rfl rfl
theorem d279_451 : decode cL_law 451 = .ok (.aload_n 0, 1) := by decide +kernel
theorem s279_451 {d : Nat} {st : List Value} {σ : am_I} {ρ : am_R} {g : am_J} {τ : am_T} {Q : am_Q} {x1 x2 x3 : Value} {v : Nat} : AW d 279 451 [.ref v, x1, x2, x3] (st) σ ρ g τ Q = AW d 279 452 [.ref v, x1, x2, x3] (.ref v :: st) σ ρ g τ Q := aw_lc m279 d279_451 rfl rfl rfl
theorem d279_452 : decode cL_law 452 = .ok (.iload_n 3, 1) := by decide +kernel
theorem s279_452 {d : Nat} {st : List Value} {σ : am_I} {ρ : am_R} {g : am_J} {τ : am_T} {Q : am_Q} {x0 x1 x2 : Value} {v : Int32} : AW d 279 452 [x0, x1, x2, .int v] (st) σ ρ g τ Q = AW d 279 453 [x0, x1, x2, .int v] (.int v :: st) σ ρ g τ Q := aw_lc m279 d279_452 rfl rfl rfl
theorem d279_453 : decode cL_law 453 = .ok (.iconst 1, 1) := by decide +kernel
theorem s279_453 {d : Nat} {st : List Value} {σ : am_I} {ρ : am_R} {g : am_J} {τ : am_T} {Q : am_Q} {x0 x1 x2 x3 : Value} : AW d 279 453 [x0, x1, x2, x3] (st) σ ρ g τ Q = AW d 279 454 [x0, x1, x2, x3] (.int 1 :: st) σ ρ g τ Q := aw_lc m279 d279_453 rfl rfl rfl
theorem d279_454 : decode cL_law 454 = .ok (.iadd, 1) := by decide +kernel
theorem s279_454 {d : Nat} {st : List Value} {σ : am_I} {ρ : am_R} {g : am_J} {τ : am_T} {Q : am_Q} {x0 x1 x2 x3 : Value} {v w : Int32} : AW d 279 454 [x0, x1, x2, x3] (.int w :: .int v :: st) σ ρ g τ Q = AW d 279 455 [x0, x1, x2, x3] (.int (v + w) :: st) σ ρ g τ Q := aw_lc m279 d279_454 rfl rfl rfl
theorem d279_455 : decode cL_law 455 = .ok (.iaload, 1) := by decide +kernel
theorem s279_455 {d : Nat} {st : List Value} {σ : am_I} {ρ : am_R} {g : am_J} {τ : am_T} {Q : am_Q} {x0 x1 x2 x3 : Value} {a : Nat} {j : Int32} (ht : τ.1 a = 15) (hj : am_inb j (τ.2.1 a) = true) : AW d 279 455 [x0, x1, x2, x3] (.int j :: .ref a :: st) σ ρ g τ Q = AW d 279 456 [x0, x1, x2, x3] (.int (σ a j.toNatClampNeg) :: st) σ ρ g τ Q := aw_ial m279 d279_455 rfl ht hj
theorem d279_456 : decode cL_law 456 = .ok (.aload_n 0, 1) := by decide +kernel
theorem s279_456 {d : Nat} {st : List Value} {σ : am_I} {ρ : am_R} {g : am_J} {τ : am_T} {Q : am_Q} {x1 x2 x3 : Value} {v : Nat} : AW d 279 456 [.ref v, x1, x2, x3] (st) σ ρ g τ Q = AW d 279 457 [.ref v, x1, x2, x3] (.ref v :: st) σ ρ g τ Q := aw_lc m279 d279_456 rfl rfl rfl
theorem d279_457 : decode cL_law 457 = .ok (.iload_n 3, 1) := by decide +kernel
theorem s279_457 {d : Nat} {st : List Value} {σ : am_I} {ρ : am_R} {g : am_J} {τ : am_T} {Q : am_Q} {x0 x1 x2 : Value} {v : Int32} : AW d 279 457 [x0, x1, x2, .int v] (st) σ ρ g τ Q = AW d 279 458 [x0, x1, x2, .int v] (.int v :: st) σ ρ g τ Q := aw_lc m279 d279_457 rfl rfl rfl
theorem d279_458 : decode cL_law 458 = .ok (.iconst 2, 1) := by decide +kernel
theorem s279_458 {d : Nat} {st : List Value} {σ : am_I} {ρ : am_R} {g : am_J} {τ : am_T} {Q : am_Q} {x0 x1 x2 x3 : Value} : AW d 279 458 [x0, x1, x2, x3] (st) σ ρ g τ Q = AW d 279 459 [x0, x1, x2, x3] (.int 2 :: st) σ ρ g τ Q := aw_lc m279 d279_458 rfl rfl rfl
theorem d279_459 : decode cL_law 459 = .ok (.iadd, 1) := by decide +kernel
theorem s279_459 {d : Nat} {st : List Value} {σ : am_I} {ρ : am_R} {g : am_J} {τ : am_T} {Q : am_Q} {x0 x1 x2 x3 : Value} {v w : Int32} : AW d 279 459 [x0, x1, x2, x3] (.int w :: .int v :: st) σ ρ g τ Q = AW d 279 460 [x0, x1, x2, x3] (.int (v + w) :: st) σ ρ g τ Q := aw_lc m279 d279_459 rfl rfl rfl
theorem d279_460 : decode cL_law 460 = .ok (.iaload, 1) := by decide +kernel
theorem s279_460 {d : Nat} {st : List Value} {σ : am_I} {ρ : am_R} {g : am_J} {τ : am_T} {Q : am_Q} {x0 x1 x2 x3 : Value} {a : Nat} {j : Int32} (ht : τ.1 a = 15) (hj : am_inb j (τ.2.1 a) = true) : AW d 279 460 [x0, x1, x2, x3] (.int j :: .ref a :: st) σ ρ g τ Q = AW d 279 461 [x0, x1, x2, x3] (.int (σ a j.toNatClampNeg) :: st) σ ρ g τ Q := aw_ial m279 d279_460 rfl ht hj
theorem d279_461 : decode cL_law 461 = .ok (.invokevirtual 43, 3) := by decide +kernel
theorem s279_461 {d : Nat} {st : List Value} {σ : am_I} {ρ : am_R} {g : am_J} {τ : am_T} {Q : am_Q} {x0 x1 x2 x3 : Value} {p0 : Nat} {p1 : Int32} {p2 : Int32} (ht : τ.1 p0 = 12) (hs : st.length ≤ 4) : AW (d + 1) 279 461 [x0, x1, x2, x3] (.int p2 :: .int p1 :: .ref p0 :: st) σ ρ g τ Q = AW d 177 0 [.ref p0, .int p1, .int p2, am_jk] [] σ ρ g τ (fun r9 σ ρ g τ => AW (d + 1) 279 464 [x0, x1, x2, x3] (r9.toList ++ st) σ ρ g τ Q) := aw_cv m279 d279_461 rfl m177 rfl rfl (by decide) en177 ok177 rfl ht hs
theorem d279_464 : decode cL_law 464 = .ok (.if_icmp .eq 1349, 3) := by decide +kernel
theorem s279_464 {d : Nat} {st : List Value} {σ : am_I} {ρ : am_R} {g : am_J} {τ : am_T} {Q : am_Q} {x0 x1 x2 x3 : Value} {v w : Int32} : AW d 279 464 [x0, x1, x2, x3] (.int w :: .int v :: st) σ ρ g τ Q = if v = w then AW d 279 1813 [x0, x1, x2, x3] (st) σ ρ g τ Q else AW d 279 467 [x0, x1, x2, x3] (st) σ ρ g τ Q := aw_br m279 d279_464 rfl rfl rfl
theorem d279_467 : decode cL_law 467 = .ok (.iconst 0, 1) := by decide +kernel
theorem s279_467 {d : Nat} {st : List Value} {σ : am_I} {ρ : am_R} {g : am_J} {τ : am_T} {Q : am_Q} {x0 x1 x2 x3 : Value} : AW d 279 467 [x0, x1, x2, x3] (st) σ ρ g τ Q = AW d 279 468 [x0, x1, x2, x3] (.int 0 :: st) σ ρ g τ Q := aw_lc m279 d279_467 rfl rfl rfl
theorem d279_468 : decode cL_law 468 = .ok (.ireturn, 1) := by decide +kernel
theorem s279_468 {d : Nat} {σ : am_I} {ρ : am_R} {g : am_J} {τ : am_T} {Q : am_Q} {x0 x1 x2 x3 : Value} {v : Int32} (hv : am_b01 v = true) : AW d 279 468 [x0, x1, x2, x3] ([.int v]) σ ρ g τ Q = Q (some (.int v)) σ ρ g τ := aw_rz m279 d279_468 rfl hv
theorem d279_469 : decode cL_law 469 = .ok (.aload_n 1, 1) := by decide +kernel
theorem s279_469 {d : Nat} {st : List Value} {σ : am_I} {ρ : am_R} {g : am_J} {τ : am_T} {Q : am_Q} {x0 x2 x3 : Value} {v : Nat} : AW d 279 469 [x0, .ref v, x2, x3] (st) σ ρ g τ Q = AW d 279 470 [x0, .ref v, x2, x3] (.ref v :: st) σ ρ g τ Q := aw_lc m279 d279_469 rfl rfl rfl
theorem d279_470 : decode cL_law 470 = .ok (.aload_n 0, 1) := by decide +kernel
theorem s279_470 {d : Nat} {st : List Value} {σ : am_I} {ρ : am_R} {g : am_J} {τ : am_T} {Q : am_Q} {x1 x2 x3 : Value} {v : Nat} : AW d 279 470 [.ref v, x1, x2, x3] (st) σ ρ g τ Q = AW d 279 471 [.ref v, x1, x2, x3] (.ref v :: st) σ ρ g τ Q := aw_lc m279 d279_470 rfl rfl rfl
theorem d279_471 : decode cL_law 471 = .ok (.iload_n 3, 1) := by decide +kernel
theorem s279_471 {d : Nat} {st : List Value} {σ : am_I} {ρ : am_R} {g : am_J} {τ : am_T} {Q : am_Q} {x0 x1 x2 : Value} {v : Int32} : AW d 279 471 [x0, x1, x2, .int v] (st) σ ρ g τ Q = AW d 279 472 [x0, x1, x2, .int v] (.int v :: st) σ ρ g τ Q := aw_lc m279 d279_471 rfl rfl rfl
theorem d279_472 : decode cL_law 472 = .ok (.iconst 1, 1) := by decide +kernel
theorem s279_472 {d : Nat} {st : List Value} {σ : am_I} {ρ : am_R} {g : am_J} {τ : am_T} {Q : am_Q} {x0 x1 x2 x3 : Value} : AW d 279 472 [x0, x1, x2, x3] (st) σ ρ g τ Q = AW d 279 473 [x0, x1, x2, x3] (.int 1 :: st) σ ρ g τ Q := aw_lc m279 d279_472 rfl rfl rfl
theorem d279_473 : decode cL_law 473 = .ok (.iadd, 1) := by decide +kernel
theorem s279_473 {d : Nat} {st : List Value} {σ : am_I} {ρ : am_R} {g : am_J} {τ : am_T} {Q : am_Q} {x0 x1 x2 x3 : Value} {v w : Int32} : AW d 279 473 [x0, x1, x2, x3] (.int w :: .int v :: st) σ ρ g τ Q = AW d 279 474 [x0, x1, x2, x3] (.int (v + w) :: st) σ ρ g τ Q := aw_lc m279 d279_473 rfl rfl rfl
theorem d279_474 : decode cL_law 474 = .ok (.iaload, 1) := by decide +kernel
theorem s279_474 {d : Nat} {st : List Value} {σ : am_I} {ρ : am_R} {g : am_J} {τ : am_T} {Q : am_Q} {x0 x1 x2 x3 : Value} {a : Nat} {j : Int32} (ht : τ.1 a = 15) (hj : am_inb j (τ.2.1 a) = true) : AW d 279 474 [x0, x1, x2, x3] (.int j :: .ref a :: st) σ ρ g τ Q = AW d 279 475 [x0, x1, x2, x3] (.int (σ a j.toNatClampNeg) :: st) σ ρ g τ Q := aw_ial m279 d279_474 rfl ht hj
theorem d279_475 : decode cL_law 475 = .ok (.aload_n 0, 1) := by decide +kernel
theorem s279_475 {d : Nat} {st : List Value} {σ : am_I} {ρ : am_R} {g : am_J} {τ : am_T} {Q : am_Q} {x1 x2 x3 : Value} {v : Nat} : AW d 279 475 [.ref v, x1, x2, x3] (st) σ ρ g τ Q = AW d 279 476 [.ref v, x1, x2, x3] (.ref v :: st) σ ρ g τ Q := aw_lc m279 d279_475 rfl rfl rfl
theorem d279_476 : decode cL_law 476 = .ok (.iload_n 3, 1) := by decide +kernel
theorem s279_476 {d : Nat} {st : List Value} {σ : am_I} {ρ : am_R} {g : am_J} {τ : am_T} {Q : am_Q} {x0 x1 x2 : Value} {v : Int32} : AW d 279 476 [x0, x1, x2, .int v] (st) σ ρ g τ Q = AW d 279 477 [x0, x1, x2, .int v] (.int v :: st) σ ρ g τ Q := aw_lc m279 d279_476 rfl rfl rfl
theorem d279_477 : decode cL_law 477 = .ok (.iconst 2, 1) := by decide +kernel
theorem s279_477 {d : Nat} {st : List Value} {σ : am_I} {ρ : am_R} {g : am_J} {τ : am_T} {Q : am_Q} {x0 x1 x2 x3 : Value} : AW d 279 477 [x0, x1, x2, x3] (st) σ ρ g τ Q = AW d 279 478 [x0, x1, x2, x3] (.int 2 :: st) σ ρ g τ Q := aw_lc m279 d279_477 rfl rfl rfl
theorem d279_478 : decode cL_law 478 = .ok (.iadd, 1) := by decide +kernel
theorem s279_478 {d : Nat} {st : List Value} {σ : am_I} {ρ : am_R} {g : am_J} {τ : am_T} {Q : am_Q} {x0 x1 x2 x3 : Value} {v w : Int32} : AW d 279 478 [x0, x1, x2, x3] (.int w :: .int v :: st) σ ρ g τ Q = AW d 279 479 [x0, x1, x2, x3] (.int (v + w) :: st) σ ρ g τ Q := aw_lc m279 d279_478 rfl rfl rfl
theorem d279_479 : decode cL_law 479 = .ok (.iaload, 1) := by decide +kernel
theorem s279_479 {d : Nat} {st : List Value} {σ : am_I} {ρ : am_R} {g : am_J} {τ : am_T} {Q : am_Q} {x0 x1 x2 x3 : Value} {a : Nat} {j : Int32} (ht : τ.1 a = 15) (hj : am_inb j (τ.2.1 a) = true) : AW d 279 479 [x0, x1, x2, x3] (.int j :: .ref a :: st) σ ρ g τ Q = AW d 279 480 [x0, x1, x2, x3] (.int (σ a j.toNatClampNeg) :: st) σ ρ g τ Q := aw_ial m279 d279_479 rfl ht hj
theorem d279_480 : decode cL_law 480 = .ok (.aload_n 0, 1) := by decide +kernel
theorem s279_480 {d : Nat} {st : List Value} {σ : am_I} {ρ : am_R} {g : am_J} {τ : am_T} {Q : am_Q} {x1 x2 x3 : Value} {v : Nat} : AW d 279 480 [.ref v, x1, x2, x3] (st) σ ρ g τ Q = AW d 279 481 [.ref v, x1, x2, x3] (.ref v :: st) σ ρ g τ Q := aw_lc m279 d279_480 rfl rfl rfl
theorem d279_481 : decode cL_law 481 = .ok (.iload_n 3, 1) := by decide +kernel
theorem s279_481 {d : Nat} {st : List Value} {σ : am_I} {ρ : am_R} {g : am_J} {τ : am_T} {Q : am_Q} {x0 x1 x2 : Value} {v : Int32} : AW d 279 481 [x0, x1, x2, .int v] (st) σ ρ g τ Q = AW d 279 482 [x0, x1, x2, .int v] (.int v :: st) σ ρ g τ Q := aw_lc m279 d279_481 rfl rfl rfl
theorem d279_482 : decode cL_law 482 = .ok (.iconst 3, 1) := by decide +kernel
theorem s279_482 {d : Nat} {st : List Value} {σ : am_I} {ρ : am_R} {g : am_J} {τ : am_T} {Q : am_Q} {x0 x1 x2 x3 : Value} : AW d 279 482 [x0, x1, x2, x3] (st) σ ρ g τ Q = AW d 279 483 [x0, x1, x2, x3] (.int 3 :: st) σ ρ g τ Q := aw_lc m279 d279_482 rfl rfl rfl
theorem d279_483 : decode cL_law 483 = .ok (.iadd, 1) := by decide +kernel
theorem s279_483 {d : Nat} {st : List Value} {σ : am_I} {ρ : am_R} {g : am_J} {τ : am_T} {Q : am_Q} {x0 x1 x2 x3 : Value} {v w : Int32} : AW d 279 483 [x0, x1, x2, x3] (.int w :: .int v :: st) σ ρ g τ Q = AW d 279 484 [x0, x1, x2, x3] (.int (v + w) :: st) σ ρ g τ Q := aw_lc m279 d279_483 rfl rfl rfl
theorem d279_484 : decode cL_law 484 = .ok (.iaload, 1) := by decide +kernel
theorem s279_484 {d : Nat} {st : List Value} {σ : am_I} {ρ : am_R} {g : am_J} {τ : am_T} {Q : am_Q} {x0 x1 x2 x3 : Value} {a : Nat} {j : Int32} (ht : τ.1 a = 15) (hj : am_inb j (τ.2.1 a) = true) : AW d 279 484 [x0, x1, x2, x3] (.int j :: .ref a :: st) σ ρ g τ Q = AW d 279 485 [x0, x1, x2, x3] (.int (σ a j.toNatClampNeg) :: st) σ ρ g τ Q := aw_ial m279 d279_484 rfl ht hj
theorem d279_485 : decode cL_law 485 = .ok (.aload_n 0, 1) := by decide +kernel
theorem s279_485 {d : Nat} {st : List Value} {σ : am_I} {ρ : am_R} {g : am_J} {τ : am_T} {Q : am_Q} {x1 x2 x3 : Value} {v : Nat} : AW d 279 485 [.ref v, x1, x2, x3] (st) σ ρ g τ Q = AW d 279 486 [.ref v, x1, x2, x3] (.ref v :: st) σ ρ g τ Q := aw_lc m279 d279_485 rfl rfl rfl
theorem d279_486 : decode cL_law 486 = .ok (.iload_n 3, 1) := by decide +kernel
theorem s279_486 {d : Nat} {st : List Value} {σ : am_I} {ρ : am_R} {g : am_J} {τ : am_T} {Q : am_Q} {x0 x1 x2 : Value} {v : Int32} : AW d 279 486 [x0, x1, x2, .int v] (st) σ ρ g τ Q = AW d 279 487 [x0, x1, x2, .int v] (.int v :: st) σ ρ g τ Q := aw_lc m279 d279_486 rfl rfl rfl
theorem d279_487 : decode cL_law 487 = .ok (.iconst 4, 1) := by decide +kernel
theorem s279_487 {d : Nat} {st : List Value} {σ : am_I} {ρ : am_R} {g : am_J} {τ : am_T} {Q : am_Q} {x0 x1 x2 x3 : Value} : AW d 279 487 [x0, x1, x2, x3] (st) σ ρ g τ Q = AW d 279 488 [x0, x1, x2, x3] (.int 4 :: st) σ ρ g τ Q := aw_lc m279 d279_487 rfl rfl rfl
theorem d279_488 : decode cL_law 488 = .ok (.iadd, 1) := by decide +kernel
theorem s279_488 {d : Nat} {st : List Value} {σ : am_I} {ρ : am_R} {g : am_J} {τ : am_T} {Q : am_Q} {x0 x1 x2 x3 : Value} {v w : Int32} : AW d 279 488 [x0, x1, x2, x3] (.int w :: .int v :: st) σ ρ g τ Q = AW d 279 489 [x0, x1, x2, x3] (.int (v + w) :: st) σ ρ g τ Q := aw_lc m279 d279_488 rfl rfl rfl
theorem d279_489 : decode cL_law 489 = .ok (.iaload, 1) := by decide +kernel
theorem s279_489 {d : Nat} {st : List Value} {σ : am_I} {ρ : am_R} {g : am_J} {τ : am_T} {Q : am_Q} {x0 x1 x2 x3 : Value} {a : Nat} {j : Int32} (ht : τ.1 a = 15) (hj : am_inb j (τ.2.1 a) = true) : AW d 279 489 [x0, x1, x2, x3] (.int j :: .ref a :: st) σ ρ g τ Q = AW d 279 490 [x0, x1, x2, x3] (.int (σ a j.toNatClampNeg) :: st) σ ρ g τ Q := aw_ial m279 d279_489 rfl ht hj
theorem d279_490 : decode cL_law 490 = .ok (.invokevirtual 44, 3) := by decide +kernel
theorem s279_490 {d : Nat} {st : List Value} {σ : am_I} {ρ : am_R} {g : am_J} {τ : am_T} {Q : am_Q} {x0 x1 x2 x3 : Value} {p0 : Nat} {p1 : Int32} {p2 : Int32} {p3 : Int32} {p4 : Int32} (ht : τ.1 p0 = 11) (hs : st.length ≤ 4) : AW (d + 1) 279 490 [x0, x1, x2, x3] (.int p4 :: .int p3 :: .int p2 :: .int p1 :: .ref p0 :: st) σ ρ g τ Q = AW d 116 0 [.ref p0, .int p1, .int p2, .int p3, .int p4, am_jk, am_jk, am_jk] [] σ ρ g τ (fun r9 σ ρ g τ => AW (d + 1) 279 493 [x0, x1, x2, x3] (r9.toList ++ st) σ ρ g τ Q) := aw_cv m279 d279_490 rfl m116 rfl rfl (by decide) en116 ok116 rfl ht hs
theorem d279_493 : decode cL_law 493 = .ok (.aload_n 2, 1) := by decide +kernel
theorem s279_493 {d : Nat} {st : List Value} {σ : am_I} {ρ : am_R} {g : am_J} {τ : am_T} {Q : am_Q} {x0 x1 x3 : Value} {v : Nat} : AW d 279 493 [x0, x1, .ref v, x3] (st) σ ρ g τ Q = AW d 279 494 [x0, x1, .ref v, x3] (.ref v :: st) σ ρ g τ Q := aw_lc m279 d279_493 rfl rfl rfl
theorem d279_494 : decode cL_law 494 = .ok (.aload_n 0, 1) := by decide +kernel
theorem s279_494 {d : Nat} {st : List Value} {σ : am_I} {ρ : am_R} {g : am_J} {τ : am_T} {Q : am_Q} {x1 x2 x3 : Value} {v : Nat} : AW d 279 494 [.ref v, x1, x2, x3] (st) σ ρ g τ Q = AW d 279 495 [.ref v, x1, x2, x3] (.ref v :: st) σ ρ g τ Q := aw_lc m279 d279_494 rfl rfl rfl
theorem d279_495 : decode cL_law 495 = .ok (.iload_n 3, 1) := by decide +kernel
theorem s279_495 {d : Nat} {st : List Value} {σ : am_I} {ρ : am_R} {g : am_J} {τ : am_T} {Q : am_Q} {x0 x1 x2 : Value} {v : Int32} : AW d 279 495 [x0, x1, x2, .int v] (st) σ ρ g τ Q = AW d 279 496 [x0, x1, x2, .int v] (.int v :: st) σ ρ g τ Q := aw_lc m279 d279_495 rfl rfl rfl
theorem d279_496 : decode cL_law 496 = .ok (.iconst 1, 1) := by decide +kernel
theorem s279_496 {d : Nat} {st : List Value} {σ : am_I} {ρ : am_R} {g : am_J} {τ : am_T} {Q : am_Q} {x0 x1 x2 x3 : Value} : AW d 279 496 [x0, x1, x2, x3] (st) σ ρ g τ Q = AW d 279 497 [x0, x1, x2, x3] (.int 1 :: st) σ ρ g τ Q := aw_lc m279 d279_496 rfl rfl rfl
theorem d279_497 : decode cL_law 497 = .ok (.iadd, 1) := by decide +kernel
theorem s279_497 {d : Nat} {st : List Value} {σ : am_I} {ρ : am_R} {g : am_J} {τ : am_T} {Q : am_Q} {x0 x1 x2 x3 : Value} {v w : Int32} : AW d 279 497 [x0, x1, x2, x3] (.int w :: .int v :: st) σ ρ g τ Q = AW d 279 498 [x0, x1, x2, x3] (.int (v + w) :: st) σ ρ g τ Q := aw_lc m279 d279_497 rfl rfl rfl
theorem d279_498 : decode cL_law 498 = .ok (.iaload, 1) := by decide +kernel
theorem s279_498 {d : Nat} {st : List Value} {σ : am_I} {ρ : am_R} {g : am_J} {τ : am_T} {Q : am_Q} {x0 x1 x2 x3 : Value} {a : Nat} {j : Int32} (ht : τ.1 a = 15) (hj : am_inb j (τ.2.1 a) = true) : AW d 279 498 [x0, x1, x2, x3] (.int j :: .ref a :: st) σ ρ g τ Q = AW d 279 499 [x0, x1, x2, x3] (.int (σ a j.toNatClampNeg) :: st) σ ρ g τ Q := aw_ial m279 d279_498 rfl ht hj
theorem d279_499 : decode cL_law 499 = .ok (.aload_n 0, 1) := by decide +kernel
theorem s279_499 {d : Nat} {st : List Value} {σ : am_I} {ρ : am_R} {g : am_J} {τ : am_T} {Q : am_Q} {x1 x2 x3 : Value} {v : Nat} : AW d 279 499 [.ref v, x1, x2, x3] (st) σ ρ g τ Q = AW d 279 500 [.ref v, x1, x2, x3] (.ref v :: st) σ ρ g τ Q := aw_lc m279 d279_499 rfl rfl rfl
theorem d279_500 : decode cL_law 500 = .ok (.iload_n 3, 1) := by decide +kernel
theorem s279_500 {d : Nat} {st : List Value} {σ : am_I} {ρ : am_R} {g : am_J} {τ : am_T} {Q : am_Q} {x0 x1 x2 : Value} {v : Int32} : AW d 279 500 [x0, x1, x2, .int v] (st) σ ρ g τ Q = AW d 279 501 [x0, x1, x2, .int v] (.int v :: st) σ ρ g τ Q := aw_lc m279 d279_500 rfl rfl rfl
theorem d279_501 : decode cL_law 501 = .ok (.iconst 2, 1) := by decide +kernel
theorem s279_501 {d : Nat} {st : List Value} {σ : am_I} {ρ : am_R} {g : am_J} {τ : am_T} {Q : am_Q} {x0 x1 x2 x3 : Value} : AW d 279 501 [x0, x1, x2, x3] (st) σ ρ g τ Q = AW d 279 502 [x0, x1, x2, x3] (.int 2 :: st) σ ρ g τ Q := aw_lc m279 d279_501 rfl rfl rfl
theorem d279_502 : decode cL_law 502 = .ok (.iadd, 1) := by decide +kernel
theorem s279_502 {d : Nat} {st : List Value} {σ : am_I} {ρ : am_R} {g : am_J} {τ : am_T} {Q : am_Q} {x0 x1 x2 x3 : Value} {v w : Int32} : AW d 279 502 [x0, x1, x2, x3] (.int w :: .int v :: st) σ ρ g τ Q = AW d 279 503 [x0, x1, x2, x3] (.int (v + w) :: st) σ ρ g τ Q := aw_lc m279 d279_502 rfl rfl rfl
theorem d279_503 : decode cL_law 503 = .ok (.iaload, 1) := by decide +kernel
theorem s279_503 {d : Nat} {st : List Value} {σ : am_I} {ρ : am_R} {g : am_J} {τ : am_T} {Q : am_Q} {x0 x1 x2 x3 : Value} {a : Nat} {j : Int32} (ht : τ.1 a = 15) (hj : am_inb j (τ.2.1 a) = true) : AW d 279 503 [x0, x1, x2, x3] (.int j :: .ref a :: st) σ ρ g τ Q = AW d 279 504 [x0, x1, x2, x3] (.int (σ a j.toNatClampNeg) :: st) σ ρ g τ Q := aw_ial m279 d279_503 rfl ht hj
theorem d279_504 : decode cL_law 504 = .ok (.aload_n 0, 1) := by decide +kernel
theorem s279_504 {d : Nat} {st : List Value} {σ : am_I} {ρ : am_R} {g : am_J} {τ : am_T} {Q : am_Q} {x1 x2 x3 : Value} {v : Nat} : AW d 279 504 [.ref v, x1, x2, x3] (st) σ ρ g τ Q = AW d 279 505 [.ref v, x1, x2, x3] (.ref v :: st) σ ρ g τ Q := aw_lc m279 d279_504 rfl rfl rfl
theorem d279_505 : decode cL_law 505 = .ok (.iload_n 3, 1) := by decide +kernel
theorem s279_505 {d : Nat} {st : List Value} {σ : am_I} {ρ : am_R} {g : am_J} {τ : am_T} {Q : am_Q} {x0 x1 x2 : Value} {v : Int32} : AW d 279 505 [x0, x1, x2, .int v] (st) σ ρ g τ Q = AW d 279 506 [x0, x1, x2, .int v] (.int v :: st) σ ρ g τ Q := aw_lc m279 d279_505 rfl rfl rfl
theorem d279_506 : decode cL_law 506 = .ok (.iconst 3, 1) := by decide +kernel
theorem s279_506 {d : Nat} {st : List Value} {σ : am_I} {ρ : am_R} {g : am_J} {τ : am_T} {Q : am_Q} {x0 x1 x2 x3 : Value} : AW d 279 506 [x0, x1, x2, x3] (st) σ ρ g τ Q = AW d 279 507 [x0, x1, x2, x3] (.int 3 :: st) σ ρ g τ Q := aw_lc m279 d279_506 rfl rfl rfl
theorem d279_507 : decode cL_law 507 = .ok (.iadd, 1) := by decide +kernel
theorem s279_507 {d : Nat} {st : List Value} {σ : am_I} {ρ : am_R} {g : am_J} {τ : am_T} {Q : am_Q} {x0 x1 x2 x3 : Value} {v w : Int32} : AW d 279 507 [x0, x1, x2, x3] (.int w :: .int v :: st) σ ρ g τ Q = AW d 279 508 [x0, x1, x2, x3] (.int (v + w) :: st) σ ρ g τ Q := aw_lc m279 d279_507 rfl rfl rfl
theorem d279_508 : decode cL_law 508 = .ok (.iaload, 1) := by decide +kernel
theorem s279_508 {d : Nat} {st : List Value} {σ : am_I} {ρ : am_R} {g : am_J} {τ : am_T} {Q : am_Q} {x0 x1 x2 x3 : Value} {a : Nat} {j : Int32} (ht : τ.1 a = 15) (hj : am_inb j (τ.2.1 a) = true) : AW d 279 508 [x0, x1, x2, x3] (.int j :: .ref a :: st) σ ρ g τ Q = AW d 279 509 [x0, x1, x2, x3] (.int (σ a j.toNatClampNeg) :: st) σ ρ g τ Q := aw_ial m279 d279_508 rfl ht hj
theorem d279_509 : decode cL_law 509 = .ok (.aload_n 0, 1) := by decide +kernel
theorem s279_509 {d : Nat} {st : List Value} {σ : am_I} {ρ : am_R} {g : am_J} {τ : am_T} {Q : am_Q} {x1 x2 x3 : Value} {v : Nat} : AW d 279 509 [.ref v, x1, x2, x3] (st) σ ρ g τ Q = AW d 279 510 [.ref v, x1, x2, x3] (.ref v :: st) σ ρ g τ Q := aw_lc m279 d279_509 rfl rfl rfl
theorem d279_510 : decode cL_law 510 = .ok (.iload_n 3, 1) := by decide +kernel
theorem s279_510 {d : Nat} {st : List Value} {σ : am_I} {ρ : am_R} {g : am_J} {τ : am_T} {Q : am_Q} {x0 x1 x2 : Value} {v : Int32} : AW d 279 510 [x0, x1, x2, .int v] (st) σ ρ g τ Q = AW d 279 511 [x0, x1, x2, .int v] (.int v :: st) σ ρ g τ Q := aw_lc m279 d279_510 rfl rfl rfl
theorem d279_511 : decode cL_law 511 = .ok (.iconst 4, 1) := by decide +kernel
theorem s279_511 {d : Nat} {st : List Value} {σ : am_I} {ρ : am_R} {g : am_J} {τ : am_T} {Q : am_Q} {x0 x1 x2 x3 : Value} : AW d 279 511 [x0, x1, x2, x3] (st) σ ρ g τ Q = AW d 279 512 [x0, x1, x2, x3] (.int 4 :: st) σ ρ g τ Q := aw_lc m279 d279_511 rfl rfl rfl
theorem d279_512 : decode cL_law 512 = .ok (.iadd, 1) := by decide +kernel
theorem s279_512 {d : Nat} {st : List Value} {σ : am_I} {ρ : am_R} {g : am_J} {τ : am_T} {Q : am_Q} {x0 x1 x2 x3 : Value} {v w : Int32} : AW d 279 512 [x0, x1, x2, x3] (.int w :: .int v :: st) σ ρ g τ Q = AW d 279 513 [x0, x1, x2, x3] (.int (v + w) :: st) σ ρ g τ Q := aw_lc m279 d279_512 rfl rfl rfl
theorem d279_513 : decode cL_law 513 = .ok (.iaload, 1) := by decide +kernel
theorem s279_513 {d : Nat} {st : List Value} {σ : am_I} {ρ : am_R} {g : am_J} {τ : am_T} {Q : am_Q} {x0 x1 x2 x3 : Value} {a : Nat} {j : Int32} (ht : τ.1 a = 15) (hj : am_inb j (τ.2.1 a) = true) : AW d 279 513 [x0, x1, x2, x3] (.int j :: .ref a :: st) σ ρ g τ Q = AW d 279 514 [x0, x1, x2, x3] (.int (σ a j.toNatClampNeg) :: st) σ ρ g τ Q := aw_ial m279 d279_513 rfl ht hj
theorem d279_514 : decode cL_law 514 = .ok (.invokevirtual 48, 3) := by decide +kernel
theorem s279_514 {d : Nat} {st : List Value} {σ : am_I} {ρ : am_R} {g : am_J} {τ : am_T} {Q : am_Q} {x0 x1 x2 x3 : Value} {p0 : Nat} {p1 : Int32} {p2 : Int32} {p3 : Int32} {p4 : Int32} (ht : τ.1 p0 = 12) (hs : st.length ≤ 4) : AW (d + 1) 279 514 [x0, x1, x2, x3] (.int p4 :: .int p3 :: .int p2 :: .int p1 :: .ref p0 :: st) σ ρ g τ Q = AW d 178 0 [.ref p0, .int p1, .int p2, .int p3, .int p4, am_jk, am_jk] [] σ ρ g τ (fun r9 σ ρ g τ => AW (d + 1) 279 517 [x0, x1, x2, x3] (r9.toList ++ st) σ ρ g τ Q) := aw_cv m279 d279_514 rfl m178 rfl rfl (by decide) en178 ok178 rfl ht hs
theorem d279_517 : decode cL_law 517 = .ok (.if_icmp .eq 1296, 3) := by decide +kernel
theorem s279_517 {d : Nat} {st : List Value} {σ : am_I} {ρ : am_R} {g : am_J} {τ : am_T} {Q : am_Q} {x0 x1 x2 x3 : Value} {v w : Int32} : AW d 279 517 [x0, x1, x2, x3] (.int w :: .int v :: st) σ ρ g τ Q = if v = w then AW d 279 1813 [x0, x1, x2, x3] (st) σ ρ g τ Q else AW d 279 520 [x0, x1, x2, x3] (st) σ ρ g τ Q := aw_br m279 d279_517 rfl rfl rfl
theorem d279_520 : decode cL_law 520 = .ok (.iconst 0, 1) := by decide +kernel
theorem s279_520 {d : Nat} {st : List Value} {σ : am_I} {ρ : am_R} {g : am_J} {τ : am_T} {Q : am_Q} {x0 x1 x2 x3 : Value} : AW d 279 520 [x0, x1, x2, x3] (st) σ ρ g τ Q = AW d 279 521 [x0, x1, x2, x3] (.int 0 :: st) σ ρ g τ Q := aw_lc m279 d279_520 rfl rfl rfl
theorem d279_521 : decode cL_law 521 = .ok (.ireturn, 1) := by decide +kernel
theorem s279_521 {d : Nat} {σ : am_I} {ρ : am_R} {g : am_J} {τ : am_T} {Q : am_Q} {x0 x1 x2 x3 : Value} {v : Int32} (hv : am_b01 v = true) : AW d 279 521 [x0, x1, x2, x3] ([.int v]) σ ρ g τ Q = Q (some (.int v)) σ ρ g τ := aw_rz m279 d279_521 rfl hv
theorem d279_522 : decode cL_law 522 = .ok (.aload_n 1, 1) := by decide +kernel
theorem s279_522 {d : Nat} {st : List Value} {σ : am_I} {ρ : am_R} {g : am_J} {τ : am_T} {Q : am_Q} {x0 x2 x3 : Value} {v : Nat} : AW d 279 522 [x0, .ref v, x2, x3] (st) σ ρ g τ Q = AW d 279 523 [x0, .ref v, x2, x3] (.ref v :: st) σ ρ g τ Q := aw_lc m279 d279_522 rfl rfl rfl
theorem d279_523 : decode cL_law 523 = .ok (.aload_n 0, 1) := by decide +kernel
theorem s279_523 {d : Nat} {st : List Value} {σ : am_I} {ρ : am_R} {g : am_J} {τ : am_T} {Q : am_Q} {x1 x2 x3 : Value} {v : Nat} : AW d 279 523 [.ref v, x1, x2, x3] (st) σ ρ g τ Q = AW d 279 524 [.ref v, x1, x2, x3] (.ref v :: st) σ ρ g τ Q := aw_lc m279 d279_523 rfl rfl rfl
theorem d279_524 : decode cL_law 524 = .ok (.iload_n 3, 1) := by decide +kernel
theorem s279_524 {d : Nat} {st : List Value} {σ : am_I} {ρ : am_R} {g : am_J} {τ : am_T} {Q : am_Q} {x0 x1 x2 : Value} {v : Int32} : AW d 279 524 [x0, x1, x2, .int v] (st) σ ρ g τ Q = AW d 279 525 [x0, x1, x2, .int v] (.int v :: st) σ ρ g τ Q := aw_lc m279 d279_524 rfl rfl rfl
theorem d279_525 : decode cL_law 525 = .ok (.iconst 1, 1) := by decide +kernel
theorem s279_525 {d : Nat} {st : List Value} {σ : am_I} {ρ : am_R} {g : am_J} {τ : am_T} {Q : am_Q} {x0 x1 x2 x3 : Value} : AW d 279 525 [x0, x1, x2, x3] (st) σ ρ g τ Q = AW d 279 526 [x0, x1, x2, x3] (.int 1 :: st) σ ρ g τ Q := aw_lc m279 d279_525 rfl rfl rfl
theorem d279_526 : decode cL_law 526 = .ok (.iadd, 1) := by decide +kernel
theorem s279_526 {d : Nat} {st : List Value} {σ : am_I} {ρ : am_R} {g : am_J} {τ : am_T} {Q : am_Q} {x0 x1 x2 x3 : Value} {v w : Int32} : AW d 279 526 [x0, x1, x2, x3] (.int w :: .int v :: st) σ ρ g τ Q = AW d 279 527 [x0, x1, x2, x3] (.int (v + w) :: st) σ ρ g τ Q := aw_lc m279 d279_526 rfl rfl rfl
theorem d279_527 : decode cL_law 527 = .ok (.iaload, 1) := by decide +kernel
theorem s279_527 {d : Nat} {st : List Value} {σ : am_I} {ρ : am_R} {g : am_J} {τ : am_T} {Q : am_Q} {x0 x1 x2 x3 : Value} {a : Nat} {j : Int32} (ht : τ.1 a = 15) (hj : am_inb j (τ.2.1 a) = true) : AW d 279 527 [x0, x1, x2, x3] (.int j :: .ref a :: st) σ ρ g τ Q = AW d 279 528 [x0, x1, x2, x3] (.int (σ a j.toNatClampNeg) :: st) σ ρ g τ Q := aw_ial m279 d279_527 rfl ht hj
theorem d279_528 : decode cL_law 528 = .ok (.aload_n 0, 1) := by decide +kernel
theorem s279_528 {d : Nat} {st : List Value} {σ : am_I} {ρ : am_R} {g : am_J} {τ : am_T} {Q : am_Q} {x1 x2 x3 : Value} {v : Nat} : AW d 279 528 [.ref v, x1, x2, x3] (st) σ ρ g τ Q = AW d 279 529 [.ref v, x1, x2, x3] (.ref v :: st) σ ρ g τ Q := aw_lc m279 d279_528 rfl rfl rfl
theorem d279_529 : decode cL_law 529 = .ok (.iload_n 3, 1) := by decide +kernel
theorem s279_529 {d : Nat} {st : List Value} {σ : am_I} {ρ : am_R} {g : am_J} {τ : am_T} {Q : am_Q} {x0 x1 x2 : Value} {v : Int32} : AW d 279 529 [x0, x1, x2, .int v] (st) σ ρ g τ Q = AW d 279 530 [x0, x1, x2, .int v] (.int v :: st) σ ρ g τ Q := aw_lc m279 d279_529 rfl rfl rfl
theorem d279_530 : decode cL_law 530 = .ok (.iconst 2, 1) := by decide +kernel
theorem s279_530 {d : Nat} {st : List Value} {σ : am_I} {ρ : am_R} {g : am_J} {τ : am_T} {Q : am_Q} {x0 x1 x2 x3 : Value} : AW d 279 530 [x0, x1, x2, x3] (st) σ ρ g τ Q = AW d 279 531 [x0, x1, x2, x3] (.int 2 :: st) σ ρ g τ Q := aw_lc m279 d279_530 rfl rfl rfl
theorem d279_531 : decode cL_law 531 = .ok (.iadd, 1) := by decide +kernel
theorem s279_531 {d : Nat} {st : List Value} {σ : am_I} {ρ : am_R} {g : am_J} {τ : am_T} {Q : am_Q} {x0 x1 x2 x3 : Value} {v w : Int32} : AW d 279 531 [x0, x1, x2, x3] (.int w :: .int v :: st) σ ρ g τ Q = AW d 279 532 [x0, x1, x2, x3] (.int (v + w) :: st) σ ρ g τ Q := aw_lc m279 d279_531 rfl rfl rfl
theorem d279_532 : decode cL_law 532 = .ok (.iaload, 1) := by decide +kernel
theorem s279_532 {d : Nat} {st : List Value} {σ : am_I} {ρ : am_R} {g : am_J} {τ : am_T} {Q : am_Q} {x0 x1 x2 x3 : Value} {a : Nat} {j : Int32} (ht : τ.1 a = 15) (hj : am_inb j (τ.2.1 a) = true) : AW d 279 532 [x0, x1, x2, x3] (.int j :: .ref a :: st) σ ρ g τ Q = AW d 279 533 [x0, x1, x2, x3] (.int (σ a j.toNatClampNeg) :: st) σ ρ g τ Q := aw_ial m279 d279_532 rfl ht hj
theorem d279_533 : decode cL_law 533 = .ok (.aload_n 0, 1) := by decide +kernel
theorem s279_533 {d : Nat} {st : List Value} {σ : am_I} {ρ : am_R} {g : am_J} {τ : am_T} {Q : am_Q} {x1 x2 x3 : Value} {v : Nat} : AW d 279 533 [.ref v, x1, x2, x3] (st) σ ρ g τ Q = AW d 279 534 [.ref v, x1, x2, x3] (.ref v :: st) σ ρ g τ Q := aw_lc m279 d279_533 rfl rfl rfl
theorem d279_534 : decode cL_law 534 = .ok (.iload_n 3, 1) := by decide +kernel
theorem s279_534 {d : Nat} {st : List Value} {σ : am_I} {ρ : am_R} {g : am_J} {τ : am_T} {Q : am_Q} {x0 x1 x2 : Value} {v : Int32} : AW d 279 534 [x0, x1, x2, .int v] (st) σ ρ g τ Q = AW d 279 535 [x0, x1, x2, .int v] (.int v :: st) σ ρ g τ Q := aw_lc m279 d279_534 rfl rfl rfl
theorem d279_535 : decode cL_law 535 = .ok (.iconst 3, 1) := by decide +kernel
theorem s279_535 {d : Nat} {st : List Value} {σ : am_I} {ρ : am_R} {g : am_J} {τ : am_T} {Q : am_Q} {x0 x1 x2 x3 : Value} : AW d 279 535 [x0, x1, x2, x3] (st) σ ρ g τ Q = AW d 279 536 [x0, x1, x2, x3] (.int 3 :: st) σ ρ g τ Q := aw_lc m279 d279_535 rfl rfl rfl
theorem d279_536 : decode cL_law 536 = .ok (.iadd, 1) := by decide +kernel
theorem s279_536 {d : Nat} {st : List Value} {σ : am_I} {ρ : am_R} {g : am_J} {τ : am_T} {Q : am_Q} {x0 x1 x2 x3 : Value} {v w : Int32} : AW d 279 536 [x0, x1, x2, x3] (.int w :: .int v :: st) σ ρ g τ Q = AW d 279 537 [x0, x1, x2, x3] (.int (v + w) :: st) σ ρ g τ Q := aw_lc m279 d279_536 rfl rfl rfl
theorem d279_537 : decode cL_law 537 = .ok (.iaload, 1) := by decide +kernel
theorem s279_537 {d : Nat} {st : List Value} {σ : am_I} {ρ : am_R} {g : am_J} {τ : am_T} {Q : am_Q} {x0 x1 x2 x3 : Value} {a : Nat} {j : Int32} (ht : τ.1 a = 15) (hj : am_inb j (τ.2.1 a) = true) : AW d 279 537 [x0, x1, x2, x3] (.int j :: .ref a :: st) σ ρ g τ Q = AW d 279 538 [x0, x1, x2, x3] (.int (σ a j.toNatClampNeg) :: st) σ ρ g τ Q := aw_ial m279 d279_537 rfl ht hj
theorem d279_538 : decode cL_law 538 = .ok (.invokevirtual 49, 3) := by decide +kernel
theorem s279_538 {d : Nat} {st : List Value} {σ : am_I} {ρ : am_R} {g : am_J} {τ : am_T} {Q : am_Q} {x0 x1 x2 x3 : Value} {p0 : Nat} {p1 : Int32} {p2 : Int32} {p3 : Int32} (ht : τ.1 p0 = 11) (hs : st.length ≤ 4) : AW (d + 1) 279 538 [x0, x1, x2, x3] (.int p3 :: .int p2 :: .int p1 :: .ref p0 :: st) σ ρ g τ Q = AW d 117 0 [.ref p0, .int p1, .int p2, .int p3, am_jk, am_jk, am_jk, am_jk] [] σ ρ g τ (fun r9 σ ρ g τ => AW (d + 1) 279 541 [x0, x1, x2, x3] (r9.toList ++ st) σ ρ g τ Q) := aw_cv m279 d279_538 rfl m117 rfl rfl (by decide) en117 ok117 rfl ht hs
theorem d279_541 : decode cL_law 541 = .ok (.aload_n 2, 1) := by decide +kernel
theorem s279_541 {d : Nat} {st : List Value} {σ : am_I} {ρ : am_R} {g : am_J} {τ : am_T} {Q : am_Q} {x0 x1 x3 : Value} {v : Nat} : AW d 279 541 [x0, x1, .ref v, x3] (st) σ ρ g τ Q = AW d 279 542 [x0, x1, .ref v, x3] (.ref v :: st) σ ρ g τ Q := aw_lc m279 d279_541 rfl rfl rfl
theorem d279_542 : decode cL_law 542 = .ok (.aload_n 0, 1) := by decide +kernel
theorem s279_542 {d : Nat} {st : List Value} {σ : am_I} {ρ : am_R} {g : am_J} {τ : am_T} {Q : am_Q} {x1 x2 x3 : Value} {v : Nat} : AW d 279 542 [.ref v, x1, x2, x3] (st) σ ρ g τ Q = AW d 279 543 [.ref v, x1, x2, x3] (.ref v :: st) σ ρ g τ Q := aw_lc m279 d279_542 rfl rfl rfl
theorem d279_543 : decode cL_law 543 = .ok (.iload_n 3, 1) := by decide +kernel
theorem s279_543 {d : Nat} {st : List Value} {σ : am_I} {ρ : am_R} {g : am_J} {τ : am_T} {Q : am_Q} {x0 x1 x2 : Value} {v : Int32} : AW d 279 543 [x0, x1, x2, .int v] (st) σ ρ g τ Q = AW d 279 544 [x0, x1, x2, .int v] (.int v :: st) σ ρ g τ Q := aw_lc m279 d279_543 rfl rfl rfl
theorem d279_544 : decode cL_law 544 = .ok (.iconst 1, 1) := by decide +kernel
theorem s279_544 {d : Nat} {st : List Value} {σ : am_I} {ρ : am_R} {g : am_J} {τ : am_T} {Q : am_Q} {x0 x1 x2 x3 : Value} : AW d 279 544 [x0, x1, x2, x3] (st) σ ρ g τ Q = AW d 279 545 [x0, x1, x2, x3] (.int 1 :: st) σ ρ g τ Q := aw_lc m279 d279_544 rfl rfl rfl
theorem d279_545 : decode cL_law 545 = .ok (.iadd, 1) := by decide +kernel
theorem s279_545 {d : Nat} {st : List Value} {σ : am_I} {ρ : am_R} {g : am_J} {τ : am_T} {Q : am_Q} {x0 x1 x2 x3 : Value} {v w : Int32} : AW d 279 545 [x0, x1, x2, x3] (.int w :: .int v :: st) σ ρ g τ Q = AW d 279 546 [x0, x1, x2, x3] (.int (v + w) :: st) σ ρ g τ Q := aw_lc m279 d279_545 rfl rfl rfl
theorem d279_546 : decode cL_law 546 = .ok (.iaload, 1) := by decide +kernel
theorem s279_546 {d : Nat} {st : List Value} {σ : am_I} {ρ : am_R} {g : am_J} {τ : am_T} {Q : am_Q} {x0 x1 x2 x3 : Value} {a : Nat} {j : Int32} (ht : τ.1 a = 15) (hj : am_inb j (τ.2.1 a) = true) : AW d 279 546 [x0, x1, x2, x3] (.int j :: .ref a :: st) σ ρ g τ Q = AW d 279 547 [x0, x1, x2, x3] (.int (σ a j.toNatClampNeg) :: st) σ ρ g τ Q := aw_ial m279 d279_546 rfl ht hj
theorem d279_547 : decode cL_law 547 = .ok (.aload_n 0, 1) := by decide +kernel
theorem s279_547 {d : Nat} {st : List Value} {σ : am_I} {ρ : am_R} {g : am_J} {τ : am_T} {Q : am_Q} {x1 x2 x3 : Value} {v : Nat} : AW d 279 547 [.ref v, x1, x2, x3] (st) σ ρ g τ Q = AW d 279 548 [.ref v, x1, x2, x3] (.ref v :: st) σ ρ g τ Q := aw_lc m279 d279_547 rfl rfl rfl
theorem d279_548 : decode cL_law 548 = .ok (.iload_n 3, 1) := by decide +kernel
theorem s279_548 {d : Nat} {st : List Value} {σ : am_I} {ρ : am_R} {g : am_J} {τ : am_T} {Q : am_Q} {x0 x1 x2 : Value} {v : Int32} : AW d 279 548 [x0, x1, x2, .int v] (st) σ ρ g τ Q = AW d 279 549 [x0, x1, x2, .int v] (.int v :: st) σ ρ g τ Q := aw_lc m279 d279_548 rfl rfl rfl
theorem d279_549 : decode cL_law 549 = .ok (.iconst 2, 1) := by decide +kernel
theorem s279_549 {d : Nat} {st : List Value} {σ : am_I} {ρ : am_R} {g : am_J} {τ : am_T} {Q : am_Q} {x0 x1 x2 x3 : Value} : AW d 279 549 [x0, x1, x2, x3] (st) σ ρ g τ Q = AW d 279 550 [x0, x1, x2, x3] (.int 2 :: st) σ ρ g τ Q := aw_lc m279 d279_549 rfl rfl rfl
theorem d279_550 : decode cL_law 550 = .ok (.iadd, 1) := by decide +kernel
theorem s279_550 {d : Nat} {st : List Value} {σ : am_I} {ρ : am_R} {g : am_J} {τ : am_T} {Q : am_Q} {x0 x1 x2 x3 : Value} {v w : Int32} : AW d 279 550 [x0, x1, x2, x3] (.int w :: .int v :: st) σ ρ g τ Q = AW d 279 551 [x0, x1, x2, x3] (.int (v + w) :: st) σ ρ g τ Q := aw_lc m279 d279_550 rfl rfl rfl
theorem d279_551 : decode cL_law 551 = .ok (.iaload, 1) := by decide +kernel
theorem s279_551 {d : Nat} {st : List Value} {σ : am_I} {ρ : am_R} {g : am_J} {τ : am_T} {Q : am_Q} {x0 x1 x2 x3 : Value} {a : Nat} {j : Int32} (ht : τ.1 a = 15) (hj : am_inb j (τ.2.1 a) = true) : AW d 279 551 [x0, x1, x2, x3] (.int j :: .ref a :: st) σ ρ g τ Q = AW d 279 552 [x0, x1, x2, x3] (.int (σ a j.toNatClampNeg) :: st) σ ρ g τ Q := aw_ial m279 d279_551 rfl ht hj
theorem d279_552 : decode cL_law 552 = .ok (.aload_n 0, 1) := by decide +kernel
theorem s279_552 {d : Nat} {st : List Value} {σ : am_I} {ρ : am_R} {g : am_J} {τ : am_T} {Q : am_Q} {x1 x2 x3 : Value} {v : Nat} : AW d 279 552 [.ref v, x1, x2, x3] (st) σ ρ g τ Q = AW d 279 553 [.ref v, x1, x2, x3] (.ref v :: st) σ ρ g τ Q := aw_lc m279 d279_552 rfl rfl rfl
theorem d279_553 : decode cL_law 553 = .ok (.iload_n 3, 1) := by decide +kernel
theorem s279_553 {d : Nat} {st : List Value} {σ : am_I} {ρ : am_R} {g : am_J} {τ : am_T} {Q : am_Q} {x0 x1 x2 : Value} {v : Int32} : AW d 279 553 [x0, x1, x2, .int v] (st) σ ρ g τ Q = AW d 279 554 [x0, x1, x2, .int v] (.int v :: st) σ ρ g τ Q := aw_lc m279 d279_553 rfl rfl rfl
theorem d279_554 : decode cL_law 554 = .ok (.iconst 3, 1) := by decide +kernel
theorem s279_554 {d : Nat} {st : List Value} {σ : am_I} {ρ : am_R} {g : am_J} {τ : am_T} {Q : am_Q} {x0 x1 x2 x3 : Value} : AW d 279 554 [x0, x1, x2, x3] (st) σ ρ g τ Q = AW d 279 555 [x0, x1, x2, x3] (.int 3 :: st) σ ρ g τ Q := aw_lc m279 d279_554 rfl rfl rfl
theorem d279_555 : decode cL_law 555 = .ok (.iadd, 1) := by decide +kernel
theorem s279_555 {d : Nat} {st : List Value} {σ : am_I} {ρ : am_R} {g : am_J} {τ : am_T} {Q : am_Q} {x0 x1 x2 x3 : Value} {v w : Int32} : AW d 279 555 [x0, x1, x2, x3] (.int w :: .int v :: st) σ ρ g τ Q = AW d 279 556 [x0, x1, x2, x3] (.int (v + w) :: st) σ ρ g τ Q := aw_lc m279 d279_555 rfl rfl rfl
theorem d279_556 : decode cL_law 556 = .ok (.iaload, 1) := by decide +kernel
theorem s279_556 {d : Nat} {st : List Value} {σ : am_I} {ρ : am_R} {g : am_J} {τ : am_T} {Q : am_Q} {x0 x1 x2 x3 : Value} {a : Nat} {j : Int32} (ht : τ.1 a = 15) (hj : am_inb j (τ.2.1 a) = true) : AW d 279 556 [x0, x1, x2, x3] (.int j :: .ref a :: st) σ ρ g τ Q = AW d 279 557 [x0, x1, x2, x3] (.int (σ a j.toNatClampNeg) :: st) σ ρ g τ Q := aw_ial m279 d279_556 rfl ht hj
theorem d279_557 : decode cL_law 557 = .ok (.invokevirtual 52, 3) := by decide +kernel
theorem s279_557 {d : Nat} {st : List Value} {σ : am_I} {ρ : am_R} {g : am_J} {τ : am_T} {Q : am_Q} {x0 x1 x2 x3 : Value} {p0 : Nat} {p1 : Int32} {p2 : Int32} {p3 : Int32} (ht : τ.1 p0 = 12) (hs : st.length ≤ 4) : AW (d + 1) 279 557 [x0, x1, x2, x3] (.int p3 :: .int p2 :: .int p1 :: .ref p0 :: st) σ ρ g τ Q = AW d 179 0 [.ref p0, .int p1, .int p2, .int p3, am_jk, am_jk, am_jk, am_jk] [] σ ρ g τ (fun r9 σ ρ g τ => AW (d + 1) 279 560 [x0, x1, x2, x3] (r9.toList ++ st) σ ρ g τ Q) := aw_cv m279 d279_557 rfl m179 rfl rfl (by decide) en179 ok179 rfl ht hs
theorem d279_560 : decode cL_law 560 = .ok (.if_icmp .eq 1253, 3) := by decide +kernel
theorem s279_560 {d : Nat} {st : List Value} {σ : am_I} {ρ : am_R} {g : am_J} {τ : am_T} {Q : am_Q} {x0 x1 x2 x3 : Value} {v w : Int32} : AW d 279 560 [x0, x1, x2, x3] (.int w :: .int v :: st) σ ρ g τ Q = if v = w then AW d 279 1813 [x0, x1, x2, x3] (st) σ ρ g τ Q else AW d 279 563 [x0, x1, x2, x3] (st) σ ρ g τ Q := aw_br m279 d279_560 rfl rfl rfl
theorem d279_563 : decode cL_law 563 = .ok (.iconst 0, 1) := by decide +kernel
theorem s279_563 {d : Nat} {st : List Value} {σ : am_I} {ρ : am_R} {g : am_J} {τ : am_T} {Q : am_Q} {x0 x1 x2 x3 : Value} : AW d 279 563 [x0, x1, x2, x3] (st) σ ρ g τ Q = AW d 279 564 [x0, x1, x2, x3] (.int 0 :: st) σ ρ g τ Q := aw_lc m279 d279_563 rfl rfl rfl
theorem d279_564 : decode cL_law 564 = .ok (.ireturn, 1) := by decide +kernel
theorem s279_564 {d : Nat} {σ : am_I} {ρ : am_R} {g : am_J} {τ : am_T} {Q : am_Q} {x0 x1 x2 x3 : Value} {v : Int32} (hv : am_b01 v = true) : AW d 279 564 [x0, x1, x2, x3] ([.int v]) σ ρ g τ Q = Q (some (.int v)) σ ρ g τ := aw_rz m279 d279_564 rfl hv
theorem d279_565 : decode cL_law 565 = .ok (.aload_n 1, 1) := by decide +kernel
theorem s279_565 {d : Nat} {st : List Value} {σ : am_I} {ρ : am_R} {g : am_J} {τ : am_T} {Q : am_Q} {x0 x2 x3 : Value} {v : Nat} : AW d 279 565 [x0, .ref v, x2, x3] (st) σ ρ g τ Q = AW d 279 566 [x0, .ref v, x2, x3] (.ref v :: st) σ ρ g τ Q := aw_lc m279 d279_565 rfl rfl rfl
theorem d279_566 : decode cL_law 566 = .ok (.aload_n 0, 1) := by decide +kernel
theorem s279_566 {d : Nat} {st : List Value} {σ : am_I} {ρ : am_R} {g : am_J} {τ : am_T} {Q : am_Q} {x1 x2 x3 : Value} {v : Nat} : AW d 279 566 [.ref v, x1, x2, x3] (st) σ ρ g τ Q = AW d 279 567 [.ref v, x1, x2, x3] (.ref v :: st) σ ρ g τ Q := aw_lc m279 d279_566 rfl rfl rfl
theorem d279_567 : decode cL_law 567 = .ok (.iload_n 3, 1) := by decide +kernel
theorem s279_567 {d : Nat} {st : List Value} {σ : am_I} {ρ : am_R} {g : am_J} {τ : am_T} {Q : am_Q} {x0 x1 x2 : Value} {v : Int32} : AW d 279 567 [x0, x1, x2, .int v] (st) σ ρ g τ Q = AW d 279 568 [x0, x1, x2, .int v] (.int v :: st) σ ρ g τ Q := aw_lc m279 d279_567 rfl rfl rfl
theorem d279_568 : decode cL_law 568 = .ok (.iconst 1, 1) := by decide +kernel
theorem s279_568 {d : Nat} {st : List Value} {σ : am_I} {ρ : am_R} {g : am_J} {τ : am_T} {Q : am_Q} {x0 x1 x2 x3 : Value} : AW d 279 568 [x0, x1, x2, x3] (st) σ ρ g τ Q = AW d 279 569 [x0, x1, x2, x3] (.int 1 :: st) σ ρ g τ Q := aw_lc m279 d279_568 rfl rfl rfl
theorem d279_569 : decode cL_law 569 = .ok (.iadd, 1) := by decide +kernel
theorem s279_569 {d : Nat} {st : List Value} {σ : am_I} {ρ : am_R} {g : am_J} {τ : am_T} {Q : am_Q} {x0 x1 x2 x3 : Value} {v w : Int32} : AW d 279 569 [x0, x1, x2, x3] (.int w :: .int v :: st) σ ρ g τ Q = AW d 279 570 [x0, x1, x2, x3] (.int (v + w) :: st) σ ρ g τ Q := aw_lc m279 d279_569 rfl rfl rfl
theorem d279_570 : decode cL_law 570 = .ok (.iaload, 1) := by decide +kernel
theorem s279_570 {d : Nat} {st : List Value} {σ : am_I} {ρ : am_R} {g : am_J} {τ : am_T} {Q : am_Q} {x0 x1 x2 x3 : Value} {a : Nat} {j : Int32} (ht : τ.1 a = 15) (hj : am_inb j (τ.2.1 a) = true) : AW d 279 570 [x0, x1, x2, x3] (.int j :: .ref a :: st) σ ρ g τ Q = AW d 279 571 [x0, x1, x2, x3] (.int (σ a j.toNatClampNeg) :: st) σ ρ g τ Q := aw_ial m279 d279_570 rfl ht hj
theorem d279_571 : decode cL_law 571 = .ok (.aload_n 0, 1) := by decide +kernel
theorem s279_571 {d : Nat} {st : List Value} {σ : am_I} {ρ : am_R} {g : am_J} {τ : am_T} {Q : am_Q} {x1 x2 x3 : Value} {v : Nat} : AW d 279 571 [.ref v, x1, x2, x3] (st) σ ρ g τ Q = AW d 279 572 [.ref v, x1, x2, x3] (.ref v :: st) σ ρ g τ Q := aw_lc m279 d279_571 rfl rfl rfl
theorem d279_572 : decode cL_law 572 = .ok (.iload_n 3, 1) := by decide +kernel
theorem s279_572 {d : Nat} {st : List Value} {σ : am_I} {ρ : am_R} {g : am_J} {τ : am_T} {Q : am_Q} {x0 x1 x2 : Value} {v : Int32} : AW d 279 572 [x0, x1, x2, .int v] (st) σ ρ g τ Q = AW d 279 573 [x0, x1, x2, .int v] (.int v :: st) σ ρ g τ Q := aw_lc m279 d279_572 rfl rfl rfl
theorem d279_573 : decode cL_law 573 = .ok (.iconst 2, 1) := by decide +kernel
theorem s279_573 {d : Nat} {st : List Value} {σ : am_I} {ρ : am_R} {g : am_J} {τ : am_T} {Q : am_Q} {x0 x1 x2 x3 : Value} : AW d 279 573 [x0, x1, x2, x3] (st) σ ρ g τ Q = AW d 279 574 [x0, x1, x2, x3] (.int 2 :: st) σ ρ g τ Q := aw_lc m279 d279_573 rfl rfl rfl
theorem d279_574 : decode cL_law 574 = .ok (.iadd, 1) := by decide +kernel
theorem s279_574 {d : Nat} {st : List Value} {σ : am_I} {ρ : am_R} {g : am_J} {τ : am_T} {Q : am_Q} {x0 x1 x2 x3 : Value} {v w : Int32} : AW d 279 574 [x0, x1, x2, x3] (.int w :: .int v :: st) σ ρ g τ Q = AW d 279 575 [x0, x1, x2, x3] (.int (v + w) :: st) σ ρ g τ Q := aw_lc m279 d279_574 rfl rfl rfl
theorem d279_575 : decode cL_law 575 = .ok (.iaload, 1) := by decide +kernel
theorem s279_575 {d : Nat} {st : List Value} {σ : am_I} {ρ : am_R} {g : am_J} {τ : am_T} {Q : am_Q} {x0 x1 x2 x3 : Value} {a : Nat} {j : Int32} (ht : τ.1 a = 15) (hj : am_inb j (τ.2.1 a) = true) : AW d 279 575 [x0, x1, x2, x3] (.int j :: .ref a :: st) σ ρ g τ Q = AW d 279 576 [x0, x1, x2, x3] (.int (σ a j.toNatClampNeg) :: st) σ ρ g τ Q := aw_ial m279 d279_575 rfl ht hj
theorem d279_576 : decode cL_law 576 = .ok (.aload_n 0, 1) := by decide +kernel
theorem s279_576 {d : Nat} {st : List Value} {σ : am_I} {ρ : am_R} {g : am_J} {τ : am_T} {Q : am_Q} {x1 x2 x3 : Value} {v : Nat} : AW d 279 576 [.ref v, x1, x2, x3] (st) σ ρ g τ Q = AW d 279 577 [.ref v, x1, x2, x3] (.ref v :: st) σ ρ g τ Q := aw_lc m279 d279_576 rfl rfl rfl
theorem d279_577 : decode cL_law 577 = .ok (.iload_n 3, 1) := by decide +kernel
theorem s279_577 {d : Nat} {st : List Value} {σ : am_I} {ρ : am_R} {g : am_J} {τ : am_T} {Q : am_Q} {x0 x1 x2 : Value} {v : Int32} : AW d 279 577 [x0, x1, x2, .int v] (st) σ ρ g τ Q = AW d 279 578 [x0, x1, x2, .int v] (.int v :: st) σ ρ g τ Q := aw_lc m279 d279_577 rfl rfl rfl
theorem d279_578 : decode cL_law 578 = .ok (.iconst 3, 1) := by decide +kernel
theorem s279_578 {d : Nat} {st : List Value} {σ : am_I} {ρ : am_R} {g : am_J} {τ : am_T} {Q : am_Q} {x0 x1 x2 x3 : Value} : AW d 279 578 [x0, x1, x2, x3] (st) σ ρ g τ Q = AW d 279 579 [x0, x1, x2, x3] (.int 3 :: st) σ ρ g τ Q := aw_lc m279 d279_578 rfl rfl rfl
theorem d279_579 : decode cL_law 579 = .ok (.iadd, 1) := by decide +kernel
theorem s279_579 {d : Nat} {st : List Value} {σ : am_I} {ρ : am_R} {g : am_J} {τ : am_T} {Q : am_Q} {x0 x1 x2 x3 : Value} {v w : Int32} : AW d 279 579 [x0, x1, x2, x3] (.int w :: .int v :: st) σ ρ g τ Q = AW d 279 580 [x0, x1, x2, x3] (.int (v + w) :: st) σ ρ g τ Q := aw_lc m279 d279_579 rfl rfl rfl
theorem d279_580 : decode cL_law 580 = .ok (.iaload, 1) := by decide +kernel
theorem s279_580 {d : Nat} {st : List Value} {σ : am_I} {ρ : am_R} {g : am_J} {τ : am_T} {Q : am_Q} {x0 x1 x2 x3 : Value} {a : Nat} {j : Int32} (ht : τ.1 a = 15) (hj : am_inb j (τ.2.1 a) = true) : AW d 279 580 [x0, x1, x2, x3] (.int j :: .ref a :: st) σ ρ g τ Q = AW d 279 581 [x0, x1, x2, x3] (.int (σ a j.toNatClampNeg) :: st) σ ρ g τ Q := aw_ial m279 d279_580 rfl ht hj
theorem d279_581 : decode cL_law 581 = .ok (.invokevirtual 53, 3) := by decide +kernel
theorem s279_581 {d : Nat} {st : List Value} {σ : am_I} {ρ : am_R} {g : am_J} {τ : am_T} {Q : am_Q} {x0 x1 x2 x3 : Value} {p0 : Nat} {p1 : Int32} {p2 : Int32} {p3 : Int32} (ht : τ.1 p0 = 11) (hs : st.length ≤ 4) : AW (d + 1) 279 581 [x0, x1, x2, x3] (.int p3 :: .int p2 :: .int p1 :: .ref p0 :: st) σ ρ g τ Q = AW d 118 0 [.ref p0, .int p1, .int p2, .int p3, am_jk, am_jk] [] σ ρ g τ (fun r9 σ ρ g τ => AW (d + 1) 279 584 [x0, x1, x2, x3] (r9.toList ++ st) σ ρ g τ Q) := aw_cv m279 d279_581 rfl m118 rfl rfl (by decide) en118 ok118 rfl ht hs
theorem d279_584 : decode cL_law 584 = .ok (.aload_n 2, 1) := by decide +kernel
theorem s279_584 {d : Nat} {st : List Value} {σ : am_I} {ρ : am_R} {g : am_J} {τ : am_T} {Q : am_Q} {x0 x1 x3 : Value} {v : Nat} : AW d 279 584 [x0, x1, .ref v, x3] (st) σ ρ g τ Q = AW d 279 585 [x0, x1, .ref v, x3] (.ref v :: st) σ ρ g τ Q := aw_lc m279 d279_584 rfl rfl rfl
theorem d279_585 : decode cL_law 585 = .ok (.aload_n 0, 1) := by decide +kernel
theorem s279_585 {d : Nat} {st : List Value} {σ : am_I} {ρ : am_R} {g : am_J} {τ : am_T} {Q : am_Q} {x1 x2 x3 : Value} {v : Nat} : AW d 279 585 [.ref v, x1, x2, x3] (st) σ ρ g τ Q = AW d 279 586 [.ref v, x1, x2, x3] (.ref v :: st) σ ρ g τ Q := aw_lc m279 d279_585 rfl rfl rfl
theorem d279_586 : decode cL_law 586 = .ok (.iload_n 3, 1) := by decide +kernel
theorem s279_586 {d : Nat} {st : List Value} {σ : am_I} {ρ : am_R} {g : am_J} {τ : am_T} {Q : am_Q} {x0 x1 x2 : Value} {v : Int32} : AW d 279 586 [x0, x1, x2, .int v] (st) σ ρ g τ Q = AW d 279 587 [x0, x1, x2, .int v] (.int v :: st) σ ρ g τ Q := aw_lc m279 d279_586 rfl rfl rfl
theorem d279_587 : decode cL_law 587 = .ok (.iconst 1, 1) := by decide +kernel
theorem s279_587 {d : Nat} {st : List Value} {σ : am_I} {ρ : am_R} {g : am_J} {τ : am_T} {Q : am_Q} {x0 x1 x2 x3 : Value} : AW d 279 587 [x0, x1, x2, x3] (st) σ ρ g τ Q = AW d 279 588 [x0, x1, x2, x3] (.int 1 :: st) σ ρ g τ Q := aw_lc m279 d279_587 rfl rfl rfl
theorem d279_588 : decode cL_law 588 = .ok (.iadd, 1) := by decide +kernel
theorem s279_588 {d : Nat} {st : List Value} {σ : am_I} {ρ : am_R} {g : am_J} {τ : am_T} {Q : am_Q} {x0 x1 x2 x3 : Value} {v w : Int32} : AW d 279 588 [x0, x1, x2, x3] (.int w :: .int v :: st) σ ρ g τ Q = AW d 279 589 [x0, x1, x2, x3] (.int (v + w) :: st) σ ρ g τ Q := aw_lc m279 d279_588 rfl rfl rfl
theorem d279_589 : decode cL_law 589 = .ok (.iaload, 1) := by decide +kernel
theorem s279_589 {d : Nat} {st : List Value} {σ : am_I} {ρ : am_R} {g : am_J} {τ : am_T} {Q : am_Q} {x0 x1 x2 x3 : Value} {a : Nat} {j : Int32} (ht : τ.1 a = 15) (hj : am_inb j (τ.2.1 a) = true) : AW d 279 589 [x0, x1, x2, x3] (.int j :: .ref a :: st) σ ρ g τ Q = AW d 279 590 [x0, x1, x2, x3] (.int (σ a j.toNatClampNeg) :: st) σ ρ g τ Q := aw_ial m279 d279_589 rfl ht hj
theorem d279_590 : decode cL_law 590 = .ok (.aload_n 0, 1) := by decide +kernel
theorem s279_590 {d : Nat} {st : List Value} {σ : am_I} {ρ : am_R} {g : am_J} {τ : am_T} {Q : am_Q} {x1 x2 x3 : Value} {v : Nat} : AW d 279 590 [.ref v, x1, x2, x3] (st) σ ρ g τ Q = AW d 279 591 [.ref v, x1, x2, x3] (.ref v :: st) σ ρ g τ Q := aw_lc m279 d279_590 rfl rfl rfl
theorem d279_591 : decode cL_law 591 = .ok (.iload_n 3, 1) := by decide +kernel
theorem s279_591 {d : Nat} {st : List Value} {σ : am_I} {ρ : am_R} {g : am_J} {τ : am_T} {Q : am_Q} {x0 x1 x2 : Value} {v : Int32} : AW d 279 591 [x0, x1, x2, .int v] (st) σ ρ g τ Q = AW d 279 592 [x0, x1, x2, .int v] (.int v :: st) σ ρ g τ Q := aw_lc m279 d279_591 rfl rfl rfl
theorem d279_592 : decode cL_law 592 = .ok (.iconst 2, 1) := by decide +kernel
theorem s279_592 {d : Nat} {st : List Value} {σ : am_I} {ρ : am_R} {g : am_J} {τ : am_T} {Q : am_Q} {x0 x1 x2 x3 : Value} : AW d 279 592 [x0, x1, x2, x3] (st) σ ρ g τ Q = AW d 279 593 [x0, x1, x2, x3] (.int 2 :: st) σ ρ g τ Q := aw_lc m279 d279_592 rfl rfl rfl
theorem d279_593 : decode cL_law 593 = .ok (.iadd, 1) := by decide +kernel
theorem s279_593 {d : Nat} {st : List Value} {σ : am_I} {ρ : am_R} {g : am_J} {τ : am_T} {Q : am_Q} {x0 x1 x2 x3 : Value} {v w : Int32} : AW d 279 593 [x0, x1, x2, x3] (.int w :: .int v :: st) σ ρ g τ Q = AW d 279 594 [x0, x1, x2, x3] (.int (v + w) :: st) σ ρ g τ Q := aw_lc m279 d279_593 rfl rfl rfl
theorem d279_594 : decode cL_law 594 = .ok (.iaload, 1) := by decide +kernel
theorem s279_594 {d : Nat} {st : List Value} {σ : am_I} {ρ : am_R} {g : am_J} {τ : am_T} {Q : am_Q} {x0 x1 x2 x3 : Value} {a : Nat} {j : Int32} (ht : τ.1 a = 15) (hj : am_inb j (τ.2.1 a) = true) : AW d 279 594 [x0, x1, x2, x3] (.int j :: .ref a :: st) σ ρ g τ Q = AW d 279 595 [x0, x1, x2, x3] (.int (σ a j.toNatClampNeg) :: st) σ ρ g τ Q := aw_ial m279 d279_594 rfl ht hj
theorem d279_595 : decode cL_law 595 = .ok (.aload_n 0, 1) := by decide +kernel
theorem s279_595 {d : Nat} {st : List Value} {σ : am_I} {ρ : am_R} {g : am_J} {τ : am_T} {Q : am_Q} {x1 x2 x3 : Value} {v : Nat} : AW d 279 595 [.ref v, x1, x2, x3] (st) σ ρ g τ Q = AW d 279 596 [.ref v, x1, x2, x3] (.ref v :: st) σ ρ g τ Q := aw_lc m279 d279_595 rfl rfl rfl
theorem d279_596 : decode cL_law 596 = .ok (.iload_n 3, 1) := by decide +kernel
theorem s279_596 {d : Nat} {st : List Value} {σ : am_I} {ρ : am_R} {g : am_J} {τ : am_T} {Q : am_Q} {x0 x1 x2 : Value} {v : Int32} : AW d 279 596 [x0, x1, x2, .int v] (st) σ ρ g τ Q = AW d 279 597 [x0, x1, x2, .int v] (.int v :: st) σ ρ g τ Q := aw_lc m279 d279_596 rfl rfl rfl
theorem d279_597 : decode cL_law 597 = .ok (.iconst 3, 1) := by decide +kernel
theorem s279_597 {d : Nat} {st : List Value} {σ : am_I} {ρ : am_R} {g : am_J} {τ : am_T} {Q : am_Q} {x0 x1 x2 x3 : Value} : AW d 279 597 [x0, x1, x2, x3] (st) σ ρ g τ Q = AW d 279 598 [x0, x1, x2, x3] (.int 3 :: st) σ ρ g τ Q := aw_lc m279 d279_597 rfl rfl rfl
theorem d279_598 : decode cL_law 598 = .ok (.iadd, 1) := by decide +kernel
theorem s279_598 {d : Nat} {st : List Value} {σ : am_I} {ρ : am_R} {g : am_J} {τ : am_T} {Q : am_Q} {x0 x1 x2 x3 : Value} {v w : Int32} : AW d 279 598 [x0, x1, x2, x3] (.int w :: .int v :: st) σ ρ g τ Q = AW d 279 599 [x0, x1, x2, x3] (.int (v + w) :: st) σ ρ g τ Q := aw_lc m279 d279_598 rfl rfl rfl
theorem d279_599 : decode cL_law 599 = .ok (.iaload, 1) := by decide +kernel
theorem s279_599 {d : Nat} {st : List Value} {σ : am_I} {ρ : am_R} {g : am_J} {τ : am_T} {Q : am_Q} {x0 x1 x2 x3 : Value} {a : Nat} {j : Int32} (ht : τ.1 a = 15) (hj : am_inb j (τ.2.1 a) = true) : AW d 279 599 [x0, x1, x2, x3] (.int j :: .ref a :: st) σ ρ g τ Q = AW d 279 600 [x0, x1, x2, x3] (.int (σ a j.toNatClampNeg) :: st) σ ρ g τ Q := aw_ial m279 d279_599 rfl ht hj
theorem d279_600 : decode cL_law 600 = .ok (.invokevirtual 56, 3) := by decide +kernel
theorem s279_600 {d : Nat} {st : List Value} {σ : am_I} {ρ : am_R} {g : am_J} {τ : am_T} {Q : am_Q} {x0 x1 x2 x3 : Value} {p0 : Nat} {p1 : Int32} {p2 : Int32} {p3 : Int32} (ht : τ.1 p0 = 12) (hs : st.length ≤ 4) : AW (d + 1) 279 600 [x0, x1, x2, x3] (.int p3 :: .int p2 :: .int p1 :: .ref p0 :: st) σ ρ g τ Q = AW d 181 0 [.ref p0, .int p1, .int p2, .int p3, am_jk, am_jk, am_jk] [] σ ρ g τ (fun r9 σ ρ g τ => AW (d + 1) 279 603 [x0, x1, x2, x3] (r9.toList ++ st) σ ρ g τ Q) := aw_cv m279 d279_600 rfl m181 rfl rfl (by decide) en181 ok181 rfl ht hs
theorem d279_603 : decode cL_law 603 = .ok (.if_icmp .eq 1210, 3) := by decide +kernel
theorem s279_603 {d : Nat} {st : List Value} {σ : am_I} {ρ : am_R} {g : am_J} {τ : am_T} {Q : am_Q} {x0 x1 x2 x3 : Value} {v w : Int32} : AW d 279 603 [x0, x1, x2, x3] (.int w :: .int v :: st) σ ρ g τ Q = if v = w then AW d 279 1813 [x0, x1, x2, x3] (st) σ ρ g τ Q else AW d 279 606 [x0, x1, x2, x3] (st) σ ρ g τ Q := aw_br m279 d279_603 rfl rfl rfl
theorem d279_606 : decode cL_law 606 = .ok (.iconst 0, 1) := by decide +kernel
theorem s279_606 {d : Nat} {st : List Value} {σ : am_I} {ρ : am_R} {g : am_J} {τ : am_T} {Q : am_Q} {x0 x1 x2 x3 : Value} : AW d 279 606 [x0, x1, x2, x3] (st) σ ρ g τ Q = AW d 279 607 [x0, x1, x2, x3] (.int 0 :: st) σ ρ g τ Q := aw_lc m279 d279_606 rfl rfl rfl
theorem d279_607 : decode cL_law 607 = .ok (.ireturn, 1) := by decide +kernel
theorem s279_607 {d : Nat} {σ : am_I} {ρ : am_R} {g : am_J} {τ : am_T} {Q : am_Q} {x0 x1 x2 x3 : Value} {v : Int32} (hv : am_b01 v = true) : AW d 279 607 [x0, x1, x2, x3] ([.int v]) σ ρ g τ Q = Q (some (.int v)) σ ρ g τ := aw_rz m279 d279_607 rfl hv
theorem d279_608 : decode cL_law 608 = .ok (.aload_n 1, 1) := by decide +kernel
theorem s279_608 {d : Nat} {st : List Value} {σ : am_I} {ρ : am_R} {g : am_J} {τ : am_T} {Q : am_Q} {x0 x2 x3 : Value} {v : Nat} : AW d 279 608 [x0, .ref v, x2, x3] (st) σ ρ g τ Q = AW d 279 609 [x0, .ref v, x2, x3] (.ref v :: st) σ ρ g τ Q := aw_lc m279 d279_608 rfl rfl rfl
theorem d279_609 : decode cL_law 609 = .ok (.aload_n 0, 1) := by decide +kernel
theorem s279_609 {d : Nat} {st : List Value} {σ : am_I} {ρ : am_R} {g : am_J} {τ : am_T} {Q : am_Q} {x1 x2 x3 : Value} {v : Nat} : AW d 279 609 [.ref v, x1, x2, x3] (st) σ ρ g τ Q = AW d 279 610 [.ref v, x1, x2, x3] (.ref v :: st) σ ρ g τ Q := aw_lc m279 d279_609 rfl rfl rfl
theorem d279_610 : decode cL_law 610 = .ok (.iload_n 3, 1) := by decide +kernel
theorem s279_610 {d : Nat} {st : List Value} {σ : am_I} {ρ : am_R} {g : am_J} {τ : am_T} {Q : am_Q} {x0 x1 x2 : Value} {v : Int32} : AW d 279 610 [x0, x1, x2, .int v] (st) σ ρ g τ Q = AW d 279 611 [x0, x1, x2, .int v] (.int v :: st) σ ρ g τ Q := aw_lc m279 d279_610 rfl rfl rfl
theorem d279_611 : decode cL_law 611 = .ok (.iconst 1, 1) := by decide +kernel
theorem s279_611 {d : Nat} {st : List Value} {σ : am_I} {ρ : am_R} {g : am_J} {τ : am_T} {Q : am_Q} {x0 x1 x2 x3 : Value} : AW d 279 611 [x0, x1, x2, x3] (st) σ ρ g τ Q = AW d 279 612 [x0, x1, x2, x3] (.int 1 :: st) σ ρ g τ Q := aw_lc m279 d279_611 rfl rfl rfl
theorem d279_612 : decode cL_law 612 = .ok (.iadd, 1) := by decide +kernel
theorem s279_612 {d : Nat} {st : List Value} {σ : am_I} {ρ : am_R} {g : am_J} {τ : am_T} {Q : am_Q} {x0 x1 x2 x3 : Value} {v w : Int32} : AW d 279 612 [x0, x1, x2, x3] (.int w :: .int v :: st) σ ρ g τ Q = AW d 279 613 [x0, x1, x2, x3] (.int (v + w) :: st) σ ρ g τ Q := aw_lc m279 d279_612 rfl rfl rfl
theorem d279_613 : decode cL_law 613 = .ok (.iaload, 1) := by decide +kernel
theorem s279_613 {d : Nat} {st : List Value} {σ : am_I} {ρ : am_R} {g : am_J} {τ : am_T} {Q : am_Q} {x0 x1 x2 x3 : Value} {a : Nat} {j : Int32} (ht : τ.1 a = 15) (hj : am_inb j (τ.2.1 a) = true) : AW d 279 613 [x0, x1, x2, x3] (.int j :: .ref a :: st) σ ρ g τ Q = AW d 279 614 [x0, x1, x2, x3] (.int (σ a j.toNatClampNeg) :: st) σ ρ g τ Q := aw_ial m279 d279_613 rfl ht hj
theorem d279_614 : decode cL_law 614 = .ok (.aload_n 0, 1) := by decide +kernel
theorem s279_614 {d : Nat} {st : List Value} {σ : am_I} {ρ : am_R} {g : am_J} {τ : am_T} {Q : am_Q} {x1 x2 x3 : Value} {v : Nat} : AW d 279 614 [.ref v, x1, x2, x3] (st) σ ρ g τ Q = AW d 279 615 [.ref v, x1, x2, x3] (.ref v :: st) σ ρ g τ Q := aw_lc m279 d279_614 rfl rfl rfl
theorem d279_615 : decode cL_law 615 = .ok (.iload_n 3, 1) := by decide +kernel
theorem s279_615 {d : Nat} {st : List Value} {σ : am_I} {ρ : am_R} {g : am_J} {τ : am_T} {Q : am_Q} {x0 x1 x2 : Value} {v : Int32} : AW d 279 615 [x0, x1, x2, .int v] (st) σ ρ g τ Q = AW d 279 616 [x0, x1, x2, .int v] (.int v :: st) σ ρ g τ Q := aw_lc m279 d279_615 rfl rfl rfl
theorem d279_616 : decode cL_law 616 = .ok (.iconst 2, 1) := by decide +kernel
theorem s279_616 {d : Nat} {st : List Value} {σ : am_I} {ρ : am_R} {g : am_J} {τ : am_T} {Q : am_Q} {x0 x1 x2 x3 : Value} : AW d 279 616 [x0, x1, x2, x3] (st) σ ρ g τ Q = AW d 279 617 [x0, x1, x2, x3] (.int 2 :: st) σ ρ g τ Q := aw_lc m279 d279_616 rfl rfl rfl
theorem d279_617 : decode cL_law 617 = .ok (.iadd, 1) := by decide +kernel
theorem s279_617 {d : Nat} {st : List Value} {σ : am_I} {ρ : am_R} {g : am_J} {τ : am_T} {Q : am_Q} {x0 x1 x2 x3 : Value} {v w : Int32} : AW d 279 617 [x0, x1, x2, x3] (.int w :: .int v :: st) σ ρ g τ Q = AW d 279 618 [x0, x1, x2, x3] (.int (v + w) :: st) σ ρ g τ Q := aw_lc m279 d279_617 rfl rfl rfl
theorem d279_618 : decode cL_law 618 = .ok (.iaload, 1) := by decide +kernel
theorem s279_618 {d : Nat} {st : List Value} {σ : am_I} {ρ : am_R} {g : am_J} {τ : am_T} {Q : am_Q} {x0 x1 x2 x3 : Value} {a : Nat} {j : Int32} (ht : τ.1 a = 15) (hj : am_inb j (τ.2.1 a) = true) : AW d 279 618 [x0, x1, x2, x3] (.int j :: .ref a :: st) σ ρ g τ Q = AW d 279 619 [x0, x1, x2, x3] (.int (σ a j.toNatClampNeg) :: st) σ ρ g τ Q := aw_ial m279 d279_618 rfl ht hj
theorem d279_619 : decode cL_law 619 = .ok (.invokevirtual 57, 3) := by decide +kernel
theorem s279_619 {d : Nat} {st : List Value} {σ : am_I} {ρ : am_R} {g : am_J} {τ : am_T} {Q : am_Q} {x0 x1 x2 x3 : Value} {p0 : Nat} {p1 : Int32} {p2 : Int32} (ht : τ.1 p0 = 11) (hs : st.length ≤ 4) : AW (d + 1) 279 619 [x0, x1, x2, x3] (.int p2 :: .int p1 :: .ref p0 :: st) σ ρ g τ Q = AW d 122 0 [.ref p0, .int p1, .int p2, am_jk] [] σ ρ g τ (fun r9 σ ρ g τ => AW (d + 1) 279 622 [x0, x1, x2, x3] (r9.toList ++ st) σ ρ g τ Q) := aw_cv m279 d279_619 rfl m122 rfl rfl (by decide) en122 ok122 rfl ht hs
theorem d279_622 : decode cL_law 622 = .ok (.aload_n 2, 1) := by decide +kernel
theorem s279_622 {d : Nat} {st : List Value} {σ : am_I} {ρ : am_R} {g : am_J} {τ : am_T} {Q : am_Q} {x0 x1 x3 : Value} {v : Nat} : AW d 279 622 [x0, x1, .ref v, x3] (st) σ ρ g τ Q = AW d 279 623 [x0, x1, .ref v, x3] (.ref v :: st) σ ρ g τ Q := aw_lc m279 d279_622 rfl rfl rfl
theorem d279_623 : decode cL_law 623 = .ok (.aload_n 0, 1) := by decide +kernel
theorem s279_623 {d : Nat} {st : List Value} {σ : am_I} {ρ : am_R} {g : am_J} {τ : am_T} {Q : am_Q} {x1 x2 x3 : Value} {v : Nat} : AW d 279 623 [.ref v, x1, x2, x3] (st) σ ρ g τ Q = AW d 279 624 [.ref v, x1, x2, x3] (.ref v :: st) σ ρ g τ Q := aw_lc m279 d279_623 rfl rfl rfl
theorem d279_624 : decode cL_law 624 = .ok (.iload_n 3, 1) := by decide +kernel
theorem s279_624 {d : Nat} {st : List Value} {σ : am_I} {ρ : am_R} {g : am_J} {τ : am_T} {Q : am_Q} {x0 x1 x2 : Value} {v : Int32} : AW d 279 624 [x0, x1, x2, .int v] (st) σ ρ g τ Q = AW d 279 625 [x0, x1, x2, .int v] (.int v :: st) σ ρ g τ Q := aw_lc m279 d279_624 rfl rfl rfl
theorem d279_625 : decode cL_law 625 = .ok (.iconst 1, 1) := by decide +kernel
theorem s279_625 {d : Nat} {st : List Value} {σ : am_I} {ρ : am_R} {g : am_J} {τ : am_T} {Q : am_Q} {x0 x1 x2 x3 : Value} : AW d 279 625 [x0, x1, x2, x3] (st) σ ρ g τ Q = AW d 279 626 [x0, x1, x2, x3] (.int 1 :: st) σ ρ g τ Q := aw_lc m279 d279_625 rfl rfl rfl
theorem d279_626 : decode cL_law 626 = .ok (.iadd, 1) := by decide +kernel
theorem s279_626 {d : Nat} {st : List Value} {σ : am_I} {ρ : am_R} {g : am_J} {τ : am_T} {Q : am_Q} {x0 x1 x2 x3 : Value} {v w : Int32} : AW d 279 626 [x0, x1, x2, x3] (.int w :: .int v :: st) σ ρ g τ Q = AW d 279 627 [x0, x1, x2, x3] (.int (v + w) :: st) σ ρ g τ Q := aw_lc m279 d279_626 rfl rfl rfl
theorem d279_627 : decode cL_law 627 = .ok (.iaload, 1) := by decide +kernel
theorem s279_627 {d : Nat} {st : List Value} {σ : am_I} {ρ : am_R} {g : am_J} {τ : am_T} {Q : am_Q} {x0 x1 x2 x3 : Value} {a : Nat} {j : Int32} (ht : τ.1 a = 15) (hj : am_inb j (τ.2.1 a) = true) : AW d 279 627 [x0, x1, x2, x3] (.int j :: .ref a :: st) σ ρ g τ Q = AW d 279 628 [x0, x1, x2, x3] (.int (σ a j.toNatClampNeg) :: st) σ ρ g τ Q := aw_ial m279 d279_627 rfl ht hj
theorem d279_628 : decode cL_law 628 = .ok (.aload_n 0, 1) := by decide +kernel
theorem s279_628 {d : Nat} {st : List Value} {σ : am_I} {ρ : am_R} {g : am_J} {τ : am_T} {Q : am_Q} {x1 x2 x3 : Value} {v : Nat} : AW d 279 628 [.ref v, x1, x2, x3] (st) σ ρ g τ Q = AW d 279 629 [.ref v, x1, x2, x3] (.ref v :: st) σ ρ g τ Q := aw_lc m279 d279_628 rfl rfl rfl
theorem d279_629 : decode cL_law 629 = .ok (.iload_n 3, 1) := by decide +kernel
theorem s279_629 {d : Nat} {st : List Value} {σ : am_I} {ρ : am_R} {g : am_J} {τ : am_T} {Q : am_Q} {x0 x1 x2 : Value} {v : Int32} : AW d 279 629 [x0, x1, x2, .int v] (st) σ ρ g τ Q = AW d 279 630 [x0, x1, x2, .int v] (.int v :: st) σ ρ g τ Q := aw_lc m279 d279_629 rfl rfl rfl
theorem d279_630 : decode cL_law 630 = .ok (.iconst 2, 1) := by decide +kernel
theorem s279_630 {d : Nat} {st : List Value} {σ : am_I} {ρ : am_R} {g : am_J} {τ : am_T} {Q : am_Q} {x0 x1 x2 x3 : Value} : AW d 279 630 [x0, x1, x2, x3] (st) σ ρ g τ Q = AW d 279 631 [x0, x1, x2, x3] (.int 2 :: st) σ ρ g τ Q := aw_lc m279 d279_630 rfl rfl rfl
theorem d279_631 : decode cL_law 631 = .ok (.iadd, 1) := by decide +kernel
theorem s279_631 {d : Nat} {st : List Value} {σ : am_I} {ρ : am_R} {g : am_J} {τ : am_T} {Q : am_Q} {x0 x1 x2 x3 : Value} {v w : Int32} : AW d 279 631 [x0, x1, x2, x3] (.int w :: .int v :: st) σ ρ g τ Q = AW d 279 632 [x0, x1, x2, x3] (.int (v + w) :: st) σ ρ g τ Q := aw_lc m279 d279_631 rfl rfl rfl
theorem d279_632 : decode cL_law 632 = .ok (.iaload, 1) := by decide +kernel
theorem s279_632 {d : Nat} {st : List Value} {σ : am_I} {ρ : am_R} {g : am_J} {τ : am_T} {Q : am_Q} {x0 x1 x2 x3 : Value} {a : Nat} {j : Int32} (ht : τ.1 a = 15) (hj : am_inb j (τ.2.1 a) = true) : AW d 279 632 [x0, x1, x2, x3] (.int j :: .ref a :: st) σ ρ g τ Q = AW d 279 633 [x0, x1, x2, x3] (.int (σ a j.toNatClampNeg) :: st) σ ρ g τ Q := aw_ial m279 d279_632 rfl ht hj
theorem d279_633 : decode cL_law 633 = .ok (.invokevirtual 60, 3) := by decide +kernel
theorem s279_633 {d : Nat} {st : List Value} {σ : am_I} {ρ : am_R} {g : am_J} {τ : am_T} {Q : am_Q} {x0 x1 x2 x3 : Value} {p0 : Nat} {p1 : Int32} {p2 : Int32} (ht : τ.1 p0 = 12) (hs : st.length ≤ 4) : AW (d + 1) 279 633 [x0, x1, x2, x3] (.int p2 :: .int p1 :: .ref p0 :: st) σ ρ g τ Q = AW d 184 0 [.ref p0, .int p1, .int p2] [] σ ρ g τ (fun r9 σ ρ g τ => AW (d + 1) 279 636 [x0, x1, x2, x3] (r9.toList ++ st) σ ρ g τ Q) := aw_cv m279 d279_633 rfl m184 rfl rfl (by decide) en184 ok184 rfl ht hs
theorem d279_636 : decode cL_law 636 = .ok (.if_icmp .eq 1177, 3) := by decide +kernel
theorem s279_636 {d : Nat} {st : List Value} {σ : am_I} {ρ : am_R} {g : am_J} {τ : am_T} {Q : am_Q} {x0 x1 x2 x3 : Value} {v w : Int32} : AW d 279 636 [x0, x1, x2, x3] (.int w :: .int v :: st) σ ρ g τ Q = if v = w then AW d 279 1813 [x0, x1, x2, x3] (st) σ ρ g τ Q else AW d 279 639 [x0, x1, x2, x3] (st) σ ρ g τ Q := aw_br m279 d279_636 rfl rfl rfl
theorem d279_639 : decode cL_law 639 = .ok (.iconst 0, 1) := by decide +kernel
theorem s279_639 {d : Nat} {st : List Value} {σ : am_I} {ρ : am_R} {g : am_J} {τ : am_T} {Q : am_Q} {x0 x1 x2 x3 : Value} : AW d 279 639 [x0, x1, x2, x3] (st) σ ρ g τ Q = AW d 279 640 [x0, x1, x2, x3] (.int 0 :: st) σ ρ g τ Q := aw_lc m279 d279_639 rfl rfl rfl
theorem d279_640 : decode cL_law 640 = .ok (.ireturn, 1) := by decide +kernel
theorem s279_640 {d : Nat} {σ : am_I} {ρ : am_R} {g : am_J} {τ : am_T} {Q : am_Q} {x0 x1 x2 x3 : Value} {v : Int32} (hv : am_b01 v = true) : AW d 279 640 [x0, x1, x2, x3] ([.int v]) σ ρ g τ Q = Q (some (.int v)) σ ρ g τ := aw_rz m279 d279_640 rfl hv
theorem d279_641 : decode cL_law 641 = .ok (.aload_n 1, 1) := by decide +kernel
theorem s279_641 {d : Nat} {st : List Value} {σ : am_I} {ρ : am_R} {g : am_J} {τ : am_T} {Q : am_Q} {x0 x2 x3 : Value} {v : Nat} : AW d 279 641 [x0, .ref v, x2, x3] (st) σ ρ g τ Q = AW d 279 642 [x0, .ref v, x2, x3] (.ref v :: st) σ ρ g τ Q := aw_lc m279 d279_641 rfl rfl rfl
theorem d279_642 : decode cL_law 642 = .ok (.aload_n 0, 1) := by decide +kernel
theorem s279_642 {d : Nat} {st : List Value} {σ : am_I} {ρ : am_R} {g : am_J} {τ : am_T} {Q : am_Q} {x1 x2 x3 : Value} {v : Nat} : AW d 279 642 [.ref v, x1, x2, x3] (st) σ ρ g τ Q = AW d 279 643 [.ref v, x1, x2, x3] (.ref v :: st) σ ρ g τ Q := aw_lc m279 d279_642 rfl rfl rfl
theorem d279_643 : decode cL_law 643 = .ok (.iload_n 3, 1) := by decide +kernel
theorem s279_643 {d : Nat} {st : List Value} {σ : am_I} {ρ : am_R} {g : am_J} {τ : am_T} {Q : am_Q} {x0 x1 x2 : Value} {v : Int32} : AW d 279 643 [x0, x1, x2, .int v] (st) σ ρ g τ Q = AW d 279 644 [x0, x1, x2, .int v] (.int v :: st) σ ρ g τ Q := aw_lc m279 d279_643 rfl rfl rfl
theorem d279_644 : decode cL_law 644 = .ok (.iconst 1, 1) := by decide +kernel
theorem s279_644 {d : Nat} {st : List Value} {σ : am_I} {ρ : am_R} {g : am_J} {τ : am_T} {Q : am_Q} {x0 x1 x2 x3 : Value} : AW d 279 644 [x0, x1, x2, x3] (st) σ ρ g τ Q = AW d 279 645 [x0, x1, x2, x3] (.int 1 :: st) σ ρ g τ Q := aw_lc m279 d279_644 rfl rfl rfl
theorem d279_645 : decode cL_law 645 = .ok (.iadd, 1) := by decide +kernel
theorem s279_645 {d : Nat} {st : List Value} {σ : am_I} {ρ : am_R} {g : am_J} {τ : am_T} {Q : am_Q} {x0 x1 x2 x3 : Value} {v w : Int32} : AW d 279 645 [x0, x1, x2, x3] (.int w :: .int v :: st) σ ρ g τ Q = AW d 279 646 [x0, x1, x2, x3] (.int (v + w) :: st) σ ρ g τ Q := aw_lc m279 d279_645 rfl rfl rfl
theorem d279_646 : decode cL_law 646 = .ok (.iaload, 1) := by decide +kernel
theorem s279_646 {d : Nat} {st : List Value} {σ : am_I} {ρ : am_R} {g : am_J} {τ : am_T} {Q : am_Q} {x0 x1 x2 x3 : Value} {a : Nat} {j : Int32} (ht : τ.1 a = 15) (hj : am_inb j (τ.2.1 a) = true) : AW d 279 646 [x0, x1, x2, x3] (.int j :: .ref a :: st) σ ρ g τ Q = AW d 279 647 [x0, x1, x2, x3] (.int (σ a j.toNatClampNeg) :: st) σ ρ g τ Q := aw_ial m279 d279_646 rfl ht hj
theorem d279_647 : decode cL_law 647 = .ok (.aload_n 0, 1) := by decide +kernel
theorem s279_647 {d : Nat} {st : List Value} {σ : am_I} {ρ : am_R} {g : am_J} {τ : am_T} {Q : am_Q} {x1 x2 x3 : Value} {v : Nat} : AW d 279 647 [.ref v, x1, x2, x3] (st) σ ρ g τ Q = AW d 279 648 [.ref v, x1, x2, x3] (.ref v :: st) σ ρ g τ Q := aw_lc m279 d279_647 rfl rfl rfl
theorem d279_648 : decode cL_law 648 = .ok (.iload_n 3, 1) := by decide +kernel
theorem s279_648 {d : Nat} {st : List Value} {σ : am_I} {ρ : am_R} {g : am_J} {τ : am_T} {Q : am_Q} {x0 x1 x2 : Value} {v : Int32} : AW d 279 648 [x0, x1, x2, .int v] (st) σ ρ g τ Q = AW d 279 649 [x0, x1, x2, .int v] (.int v :: st) σ ρ g τ Q := aw_lc m279 d279_648 rfl rfl rfl
theorem d279_649 : decode cL_law 649 = .ok (.iconst 2, 1) := by decide +kernel
theorem s279_649 {d : Nat} {st : List Value} {σ : am_I} {ρ : am_R} {g : am_J} {τ : am_T} {Q : am_Q} {x0 x1 x2 x3 : Value} : AW d 279 649 [x0, x1, x2, x3] (st) σ ρ g τ Q = AW d 279 650 [x0, x1, x2, x3] (.int 2 :: st) σ ρ g τ Q := aw_lc m279 d279_649 rfl rfl rfl
theorem d279_650 : decode cL_law 650 = .ok (.iadd, 1) := by decide +kernel
theorem s279_650 {d : Nat} {st : List Value} {σ : am_I} {ρ : am_R} {g : am_J} {τ : am_T} {Q : am_Q} {x0 x1 x2 x3 : Value} {v w : Int32} : AW d 279 650 [x0, x1, x2, x3] (.int w :: .int v :: st) σ ρ g τ Q = AW d 279 651 [x0, x1, x2, x3] (.int (v + w) :: st) σ ρ g τ Q := aw_lc m279 d279_650 rfl rfl rfl
theorem d279_651 : decode cL_law 651 = .ok (.iaload, 1) := by decide +kernel
theorem s279_651 {d : Nat} {st : List Value} {σ : am_I} {ρ : am_R} {g : am_J} {τ : am_T} {Q : am_Q} {x0 x1 x2 x3 : Value} {a : Nat} {j : Int32} (ht : τ.1 a = 15) (hj : am_inb j (τ.2.1 a) = true) : AW d 279 651 [x0, x1, x2, x3] (.int j :: .ref a :: st) σ ρ g τ Q = AW d 279 652 [x0, x1, x2, x3] (.int (σ a j.toNatClampNeg) :: st) σ ρ g τ Q := aw_ial m279 d279_651 rfl ht hj
theorem d279_652 : decode cL_law 652 = .ok (.aload_n 0, 1) := by decide +kernel
theorem s279_652 {d : Nat} {st : List Value} {σ : am_I} {ρ : am_R} {g : am_J} {τ : am_T} {Q : am_Q} {x1 x2 x3 : Value} {v : Nat} : AW d 279 652 [.ref v, x1, x2, x3] (st) σ ρ g τ Q = AW d 279 653 [.ref v, x1, x2, x3] (.ref v :: st) σ ρ g τ Q := aw_lc m279 d279_652 rfl rfl rfl
theorem d279_653 : decode cL_law 653 = .ok (.iload_n 3, 1) := by decide +kernel
theorem s279_653 {d : Nat} {st : List Value} {σ : am_I} {ρ : am_R} {g : am_J} {τ : am_T} {Q : am_Q} {x0 x1 x2 : Value} {v : Int32} : AW d 279 653 [x0, x1, x2, .int v] (st) σ ρ g τ Q = AW d 279 654 [x0, x1, x2, .int v] (.int v :: st) σ ρ g τ Q := aw_lc m279 d279_653 rfl rfl rfl
theorem d279_654 : decode cL_law 654 = .ok (.iconst 3, 1) := by decide +kernel
theorem s279_654 {d : Nat} {st : List Value} {σ : am_I} {ρ : am_R} {g : am_J} {τ : am_T} {Q : am_Q} {x0 x1 x2 x3 : Value} : AW d 279 654 [x0, x1, x2, x3] (st) σ ρ g τ Q = AW d 279 655 [x0, x1, x2, x3] (.int 3 :: st) σ ρ g τ Q := aw_lc m279 d279_654 rfl rfl rfl
theorem d279_655 : decode cL_law 655 = .ok (.iadd, 1) := by decide +kernel
theorem s279_655 {d : Nat} {st : List Value} {σ : am_I} {ρ : am_R} {g : am_J} {τ : am_T} {Q : am_Q} {x0 x1 x2 x3 : Value} {v w : Int32} : AW d 279 655 [x0, x1, x2, x3] (.int w :: .int v :: st) σ ρ g τ Q = AW d 279 656 [x0, x1, x2, x3] (.int (v + w) :: st) σ ρ g τ Q := aw_lc m279 d279_655 rfl rfl rfl
theorem d279_656 : decode cL_law 656 = .ok (.iaload, 1) := by decide +kernel
theorem s279_656 {d : Nat} {st : List Value} {σ : am_I} {ρ : am_R} {g : am_J} {τ : am_T} {Q : am_Q} {x0 x1 x2 x3 : Value} {a : Nat} {j : Int32} (ht : τ.1 a = 15) (hj : am_inb j (τ.2.1 a) = true) : AW d 279 656 [x0, x1, x2, x3] (.int j :: .ref a :: st) σ ρ g τ Q = AW d 279 657 [x0, x1, x2, x3] (.int (σ a j.toNatClampNeg) :: st) σ ρ g τ Q := aw_ial m279 d279_656 rfl ht hj
theorem d279_657 : decode cL_law 657 = .ok (.invokevirtual 61, 3) := by decide +kernel
theorem s279_657 {d : Nat} {st : List Value} {σ : am_I} {ρ : am_R} {g : am_J} {τ : am_T} {Q : am_Q} {x0 x1 x2 x3 : Value} {p0 : Nat} {p1 : Int32} {p2 : Int32} {p3 : Int32} (ht : τ.1 p0 = 11) (hs : st.length ≤ 4) : AW (d + 1) 279 657 [x0, x1, x2, x3] (.int p3 :: .int p2 :: .int p1 :: .ref p0 :: st) σ ρ g τ Q = AW d 123 0 [.ref p0, .int p1, .int p2, .int p3, am_jk, am_jk, am_jk] [] σ ρ g τ (fun r9 σ ρ g τ => AW (d + 1) 279 660 [x0, x1, x2, x3] (r9.toList ++ st) σ ρ g τ Q) := aw_cv m279 d279_657 rfl m123 rfl rfl (by decide) en123 ok123 rfl ht hs
theorem d279_660 : decode cL_law 660 = .ok (.aload_n 2, 1) := by decide +kernel
theorem s279_660 {d : Nat} {st : List Value} {σ : am_I} {ρ : am_R} {g : am_J} {τ : am_T} {Q : am_Q} {x0 x1 x3 : Value} {v : Nat} : AW d 279 660 [x0, x1, .ref v, x3] (st) σ ρ g τ Q = AW d 279 661 [x0, x1, .ref v, x3] (.ref v :: st) σ ρ g τ Q := aw_lc m279 d279_660 rfl rfl rfl
theorem d279_661 : decode cL_law 661 = .ok (.aload_n 0, 1) := by decide +kernel
theorem s279_661 {d : Nat} {st : List Value} {σ : am_I} {ρ : am_R} {g : am_J} {τ : am_T} {Q : am_Q} {x1 x2 x3 : Value} {v : Nat} : AW d 279 661 [.ref v, x1, x2, x3] (st) σ ρ g τ Q = AW d 279 662 [.ref v, x1, x2, x3] (.ref v :: st) σ ρ g τ Q := aw_lc m279 d279_661 rfl rfl rfl
theorem d279_662 : decode cL_law 662 = .ok (.iload_n 3, 1) := by decide +kernel
theorem s279_662 {d : Nat} {st : List Value} {σ : am_I} {ρ : am_R} {g : am_J} {τ : am_T} {Q : am_Q} {x0 x1 x2 : Value} {v : Int32} : AW d 279 662 [x0, x1, x2, .int v] (st) σ ρ g τ Q = AW d 279 663 [x0, x1, x2, .int v] (.int v :: st) σ ρ g τ Q := aw_lc m279 d279_662 rfl rfl rfl
theorem d279_663 : decode cL_law 663 = .ok (.iconst 1, 1) := by decide +kernel
theorem s279_663 {d : Nat} {st : List Value} {σ : am_I} {ρ : am_R} {g : am_J} {τ : am_T} {Q : am_Q} {x0 x1 x2 x3 : Value} : AW d 279 663 [x0, x1, x2, x3] (st) σ ρ g τ Q = AW d 279 664 [x0, x1, x2, x3] (.int 1 :: st) σ ρ g τ Q := aw_lc m279 d279_663 rfl rfl rfl
theorem d279_664 : decode cL_law 664 = .ok (.iadd, 1) := by decide +kernel
theorem s279_664 {d : Nat} {st : List Value} {σ : am_I} {ρ : am_R} {g : am_J} {τ : am_T} {Q : am_Q} {x0 x1 x2 x3 : Value} {v w : Int32} : AW d 279 664 [x0, x1, x2, x3] (.int w :: .int v :: st) σ ρ g τ Q = AW d 279 665 [x0, x1, x2, x3] (.int (v + w) :: st) σ ρ g τ Q := aw_lc m279 d279_664 rfl rfl rfl
theorem d279_665 : decode cL_law 665 = .ok (.iaload, 1) := by decide +kernel
theorem s279_665 {d : Nat} {st : List Value} {σ : am_I} {ρ : am_R} {g : am_J} {τ : am_T} {Q : am_Q} {x0 x1 x2 x3 : Value} {a : Nat} {j : Int32} (ht : τ.1 a = 15) (hj : am_inb j (τ.2.1 a) = true) : AW d 279 665 [x0, x1, x2, x3] (.int j :: .ref a :: st) σ ρ g τ Q = AW d 279 666 [x0, x1, x2, x3] (.int (σ a j.toNatClampNeg) :: st) σ ρ g τ Q := aw_ial m279 d279_665 rfl ht hj
theorem d279_666 : decode cL_law 666 = .ok (.aload_n 0, 1) := by decide +kernel
theorem s279_666 {d : Nat} {st : List Value} {σ : am_I} {ρ : am_R} {g : am_J} {τ : am_T} {Q : am_Q} {x1 x2 x3 : Value} {v : Nat} : AW d 279 666 [.ref v, x1, x2, x3] (st) σ ρ g τ Q = AW d 279 667 [.ref v, x1, x2, x3] (.ref v :: st) σ ρ g τ Q := aw_lc m279 d279_666 rfl rfl rfl
theorem d279_667 : decode cL_law 667 = .ok (.iload_n 3, 1) := by decide +kernel
theorem s279_667 {d : Nat} {st : List Value} {σ : am_I} {ρ : am_R} {g : am_J} {τ : am_T} {Q : am_Q} {x0 x1 x2 : Value} {v : Int32} : AW d 279 667 [x0, x1, x2, .int v] (st) σ ρ g τ Q = AW d 279 668 [x0, x1, x2, .int v] (.int v :: st) σ ρ g τ Q := aw_lc m279 d279_667 rfl rfl rfl
theorem d279_668 : decode cL_law 668 = .ok (.iconst 2, 1) := by decide +kernel
theorem s279_668 {d : Nat} {st : List Value} {σ : am_I} {ρ : am_R} {g : am_J} {τ : am_T} {Q : am_Q} {x0 x1 x2 x3 : Value} : AW d 279 668 [x0, x1, x2, x3] (st) σ ρ g τ Q = AW d 279 669 [x0, x1, x2, x3] (.int 2 :: st) σ ρ g τ Q := aw_lc m279 d279_668 rfl rfl rfl
theorem d279_669 : decode cL_law 669 = .ok (.iadd, 1) := by decide +kernel
theorem s279_669 {d : Nat} {st : List Value} {σ : am_I} {ρ : am_R} {g : am_J} {τ : am_T} {Q : am_Q} {x0 x1 x2 x3 : Value} {v w : Int32} : AW d 279 669 [x0, x1, x2, x3] (.int w :: .int v :: st) σ ρ g τ Q = AW d 279 670 [x0, x1, x2, x3] (.int (v + w) :: st) σ ρ g τ Q := aw_lc m279 d279_669 rfl rfl rfl
theorem d279_670 : decode cL_law 670 = .ok (.iaload, 1) := by decide +kernel
theorem s279_670 {d : Nat} {st : List Value} {σ : am_I} {ρ : am_R} {g : am_J} {τ : am_T} {Q : am_Q} {x0 x1 x2 x3 : Value} {a : Nat} {j : Int32} (ht : τ.1 a = 15) (hj : am_inb j (τ.2.1 a) = true) : AW d 279 670 [x0, x1, x2, x3] (.int j :: .ref a :: st) σ ρ g τ Q = AW d 279 671 [x0, x1, x2, x3] (.int (σ a j.toNatClampNeg) :: st) σ ρ g τ Q := aw_ial m279 d279_670 rfl ht hj
theorem d279_671 : decode cL_law 671 = .ok (.aload_n 0, 1) := by decide +kernel
theorem s279_671 {d : Nat} {st : List Value} {σ : am_I} {ρ : am_R} {g : am_J} {τ : am_T} {Q : am_Q} {x1 x2 x3 : Value} {v : Nat} : AW d 279 671 [.ref v, x1, x2, x3] (st) σ ρ g τ Q = AW d 279 672 [.ref v, x1, x2, x3] (.ref v :: st) σ ρ g τ Q := aw_lc m279 d279_671 rfl rfl rfl
theorem d279_672 : decode cL_law 672 = .ok (.iload_n 3, 1) := by decide +kernel
theorem s279_672 {d : Nat} {st : List Value} {σ : am_I} {ρ : am_R} {g : am_J} {τ : am_T} {Q : am_Q} {x0 x1 x2 : Value} {v : Int32} : AW d 279 672 [x0, x1, x2, .int v] (st) σ ρ g τ Q = AW d 279 673 [x0, x1, x2, .int v] (.int v :: st) σ ρ g τ Q := aw_lc m279 d279_672 rfl rfl rfl
theorem d279_673 : decode cL_law 673 = .ok (.iconst 3, 1) := by decide +kernel
theorem s279_673 {d : Nat} {st : List Value} {σ : am_I} {ρ : am_R} {g : am_J} {τ : am_T} {Q : am_Q} {x0 x1 x2 x3 : Value} : AW d 279 673 [x0, x1, x2, x3] (st) σ ρ g τ Q = AW d 279 674 [x0, x1, x2, x3] (.int 3 :: st) σ ρ g τ Q := aw_lc m279 d279_673 rfl rfl rfl
theorem d279_674 : decode cL_law 674 = .ok (.iadd, 1) := by decide +kernel
theorem s279_674 {d : Nat} {st : List Value} {σ : am_I} {ρ : am_R} {g : am_J} {τ : am_T} {Q : am_Q} {x0 x1 x2 x3 : Value} {v w : Int32} : AW d 279 674 [x0, x1, x2, x3] (.int w :: .int v :: st) σ ρ g τ Q = AW d 279 675 [x0, x1, x2, x3] (.int (v + w) :: st) σ ρ g τ Q := aw_lc m279 d279_674 rfl rfl rfl
theorem d279_675 : decode cL_law 675 = .ok (.iaload, 1) := by decide +kernel
theorem s279_675 {d : Nat} {st : List Value} {σ : am_I} {ρ : am_R} {g : am_J} {τ : am_T} {Q : am_Q} {x0 x1 x2 x3 : Value} {a : Nat} {j : Int32} (ht : τ.1 a = 15) (hj : am_inb j (τ.2.1 a) = true) : AW d 279 675 [x0, x1, x2, x3] (.int j :: .ref a :: st) σ ρ g τ Q = AW d 279 676 [x0, x1, x2, x3] (.int (σ a j.toNatClampNeg) :: st) σ ρ g τ Q := aw_ial m279 d279_675 rfl ht hj
theorem d279_676 : decode cL_law 676 = .ok (.invokevirtual 64, 3) := by decide +kernel
theorem s279_676 {d : Nat} {st : List Value} {σ : am_I} {ρ : am_R} {g : am_J} {τ : am_T} {Q : am_Q} {x0 x1 x2 x3 : Value} {p0 : Nat} {p1 : Int32} {p2 : Int32} {p3 : Int32} (ht : τ.1 p0 = 12) (hs : st.length ≤ 4) : AW (d + 1) 279 676 [x0, x1, x2, x3] (.int p3 :: .int p2 :: .int p1 :: .ref p0 :: st) σ ρ g τ Q = AW d 212 0 [.ref p0, .int p1, .int p2, .int p3] [] σ ρ g τ (fun r9 σ ρ g τ => AW (d + 1) 279 679 [x0, x1, x2, x3] (r9.toList ++ st) σ ρ g τ Q) := aw_cv m279 d279_676 rfl m212 rfl rfl (by decide) en212 ok212 rfl ht hs
theorem d279_679 : decode cL_law 679 = .ok (.if_icmp .eq 1134, 3) := by decide +kernel
theorem s279_679 {d : Nat} {st : List Value} {σ : am_I} {ρ : am_R} {g : am_J} {τ : am_T} {Q : am_Q} {x0 x1 x2 x3 : Value} {v w : Int32} : AW d 279 679 [x0, x1, x2, x3] (.int w :: .int v :: st) σ ρ g τ Q = if v = w then AW d 279 1813 [x0, x1, x2, x3] (st) σ ρ g τ Q else AW d 279 682 [x0, x1, x2, x3] (st) σ ρ g τ Q := aw_br m279 d279_679 rfl rfl rfl
theorem d279_682 : decode cL_law 682 = .ok (.iconst 0, 1) := by decide +kernel
theorem s279_682 {d : Nat} {st : List Value} {σ : am_I} {ρ : am_R} {g : am_J} {τ : am_T} {Q : am_Q} {x0 x1 x2 x3 : Value} : AW d 279 682 [x0, x1, x2, x3] (st) σ ρ g τ Q = AW d 279 683 [x0, x1, x2, x3] (.int 0 :: st) σ ρ g τ Q := aw_lc m279 d279_682 rfl rfl rfl
theorem d279_683 : decode cL_law 683 = .ok (.ireturn, 1) := by decide +kernel
theorem s279_683 {d : Nat} {σ : am_I} {ρ : am_R} {g : am_J} {τ : am_T} {Q : am_Q} {x0 x1 x2 x3 : Value} {v : Int32} (hv : am_b01 v = true) : AW d 279 683 [x0, x1, x2, x3] ([.int v]) σ ρ g τ Q = Q (some (.int v)) σ ρ g τ := aw_rz m279 d279_683 rfl hv
theorem d279_684 : decode cL_law 684 = .ok (.aload_n 1, 1) := by decide +kernel
theorem s279_684 {d : Nat} {st : List Value} {σ : am_I} {ρ : am_R} {g : am_J} {τ : am_T} {Q : am_Q} {x0 x2 x3 : Value} {v : Nat} : AW d 279 684 [x0, .ref v, x2, x3] (st) σ ρ g τ Q = AW d 279 685 [x0, .ref v, x2, x3] (.ref v :: st) σ ρ g τ Q := aw_lc m279 d279_684 rfl rfl rfl
theorem d279_685 : decode cL_law 685 = .ok (.aload_n 0, 1) := by decide +kernel
theorem s279_685 {d : Nat} {st : List Value} {σ : am_I} {ρ : am_R} {g : am_J} {τ : am_T} {Q : am_Q} {x1 x2 x3 : Value} {v : Nat} : AW d 279 685 [.ref v, x1, x2, x3] (st) σ ρ g τ Q = AW d 279 686 [.ref v, x1, x2, x3] (.ref v :: st) σ ρ g τ Q := aw_lc m279 d279_685 rfl rfl rfl
theorem d279_686 : decode cL_law 686 = .ok (.iload_n 3, 1) := by decide +kernel
theorem s279_686 {d : Nat} {st : List Value} {σ : am_I} {ρ : am_R} {g : am_J} {τ : am_T} {Q : am_Q} {x0 x1 x2 : Value} {v : Int32} : AW d 279 686 [x0, x1, x2, .int v] (st) σ ρ g τ Q = AW d 279 687 [x0, x1, x2, .int v] (.int v :: st) σ ρ g τ Q := aw_lc m279 d279_686 rfl rfl rfl
theorem d279_687 : decode cL_law 687 = .ok (.iconst 1, 1) := by decide +kernel
theorem s279_687 {d : Nat} {st : List Value} {σ : am_I} {ρ : am_R} {g : am_J} {τ : am_T} {Q : am_Q} {x0 x1 x2 x3 : Value} : AW d 279 687 [x0, x1, x2, x3] (st) σ ρ g τ Q = AW d 279 688 [x0, x1, x2, x3] (.int 1 :: st) σ ρ g τ Q := aw_lc m279 d279_687 rfl rfl rfl
theorem d279_688 : decode cL_law 688 = .ok (.iadd, 1) := by decide +kernel
theorem s279_688 {d : Nat} {st : List Value} {σ : am_I} {ρ : am_R} {g : am_J} {τ : am_T} {Q : am_Q} {x0 x1 x2 x3 : Value} {v w : Int32} : AW d 279 688 [x0, x1, x2, x3] (.int w :: .int v :: st) σ ρ g τ Q = AW d 279 689 [x0, x1, x2, x3] (.int (v + w) :: st) σ ρ g τ Q := aw_lc m279 d279_688 rfl rfl rfl
theorem d279_689 : decode cL_law 689 = .ok (.iaload, 1) := by decide +kernel
theorem s279_689 {d : Nat} {st : List Value} {σ : am_I} {ρ : am_R} {g : am_J} {τ : am_T} {Q : am_Q} {x0 x1 x2 x3 : Value} {a : Nat} {j : Int32} (ht : τ.1 a = 15) (hj : am_inb j (τ.2.1 a) = true) : AW d 279 689 [x0, x1, x2, x3] (.int j :: .ref a :: st) σ ρ g τ Q = AW d 279 690 [x0, x1, x2, x3] (.int (σ a j.toNatClampNeg) :: st) σ ρ g τ Q := aw_ial m279 d279_689 rfl ht hj
theorem d279_690 : decode cL_law 690 = .ok (.aload_n 0, 1) := by decide +kernel
theorem s279_690 {d : Nat} {st : List Value} {σ : am_I} {ρ : am_R} {g : am_J} {τ : am_T} {Q : am_Q} {x1 x2 x3 : Value} {v : Nat} : AW d 279 690 [.ref v, x1, x2, x3] (st) σ ρ g τ Q = AW d 279 691 [.ref v, x1, x2, x3] (.ref v :: st) σ ρ g τ Q := aw_lc m279 d279_690 rfl rfl rfl
theorem d279_691 : decode cL_law 691 = .ok (.iload_n 3, 1) := by decide +kernel
theorem s279_691 {d : Nat} {st : List Value} {σ : am_I} {ρ : am_R} {g : am_J} {τ : am_T} {Q : am_Q} {x0 x1 x2 : Value} {v : Int32} : AW d 279 691 [x0, x1, x2, .int v] (st) σ ρ g τ Q = AW d 279 692 [x0, x1, x2, .int v] (.int v :: st) σ ρ g τ Q := aw_lc m279 d279_691 rfl rfl rfl
theorem d279_692 : decode cL_law 692 = .ok (.iconst 2, 1) := by decide +kernel
theorem s279_692 {d : Nat} {st : List Value} {σ : am_I} {ρ : am_R} {g : am_J} {τ : am_T} {Q : am_Q} {x0 x1 x2 x3 : Value} : AW d 279 692 [x0, x1, x2, x3] (st) σ ρ g τ Q = AW d 279 693 [x0, x1, x2, x3] (.int 2 :: st) σ ρ g τ Q := aw_lc m279 d279_692 rfl rfl rfl
theorem d279_693 : decode cL_law 693 = .ok (.iadd, 1) := by decide +kernel
theorem s279_693 {d : Nat} {st : List Value} {σ : am_I} {ρ : am_R} {g : am_J} {τ : am_T} {Q : am_Q} {x0 x1 x2 x3 : Value} {v w : Int32} : AW d 279 693 [x0, x1, x2, x3] (.int w :: .int v :: st) σ ρ g τ Q = AW d 279 694 [x0, x1, x2, x3] (.int (v + w) :: st) σ ρ g τ Q := aw_lc m279 d279_693 rfl rfl rfl
theorem d279_694 : decode cL_law 694 = .ok (.iaload, 1) := by decide +kernel
theorem s279_694 {d : Nat} {st : List Value} {σ : am_I} {ρ : am_R} {g : am_J} {τ : am_T} {Q : am_Q} {x0 x1 x2 x3 : Value} {a : Nat} {j : Int32} (ht : τ.1 a = 15) (hj : am_inb j (τ.2.1 a) = true) : AW d 279 694 [x0, x1, x2, x3] (.int j :: .ref a :: st) σ ρ g τ Q = AW d 279 695 [x0, x1, x2, x3] (.int (σ a j.toNatClampNeg) :: st) σ ρ g τ Q := aw_ial m279 d279_694 rfl ht hj
theorem d279_695 : decode cL_law 695 = .ok (.aload_n 0, 1) := by decide +kernel
theorem s279_695 {d : Nat} {st : List Value} {σ : am_I} {ρ : am_R} {g : am_J} {τ : am_T} {Q : am_Q} {x1 x2 x3 : Value} {v : Nat} : AW d 279 695 [.ref v, x1, x2, x3] (st) σ ρ g τ Q = AW d 279 696 [.ref v, x1, x2, x3] (.ref v :: st) σ ρ g τ Q := aw_lc m279 d279_695 rfl rfl rfl
theorem d279_696 : decode cL_law 696 = .ok (.iload_n 3, 1) := by decide +kernel
theorem s279_696 {d : Nat} {st : List Value} {σ : am_I} {ρ : am_R} {g : am_J} {τ : am_T} {Q : am_Q} {x0 x1 x2 : Value} {v : Int32} : AW d 279 696 [x0, x1, x2, .int v] (st) σ ρ g τ Q = AW d 279 697 [x0, x1, x2, .int v] (.int v :: st) σ ρ g τ Q := aw_lc m279 d279_696 rfl rfl rfl
theorem d279_697 : decode cL_law 697 = .ok (.iconst 3, 1) := by decide +kernel
theorem s279_697 {d : Nat} {st : List Value} {σ : am_I} {ρ : am_R} {g : am_J} {τ : am_T} {Q : am_Q} {x0 x1 x2 x3 : Value} : AW d 279 697 [x0, x1, x2, x3] (st) σ ρ g τ Q = AW d 279 698 [x0, x1, x2, x3] (.int 3 :: st) σ ρ g τ Q := aw_lc m279 d279_697 rfl rfl rfl
theorem d279_698 : decode cL_law 698 = .ok (.iadd, 1) := by decide +kernel
theorem s279_698 {d : Nat} {st : List Value} {σ : am_I} {ρ : am_R} {g : am_J} {τ : am_T} {Q : am_Q} {x0 x1 x2 x3 : Value} {v w : Int32} : AW d 279 698 [x0, x1, x2, x3] (.int w :: .int v :: st) σ ρ g τ Q = AW d 279 699 [x0, x1, x2, x3] (.int (v + w) :: st) σ ρ g τ Q := aw_lc m279 d279_698 rfl rfl rfl
theorem d279_699 : decode cL_law 699 = .ok (.iaload, 1) := by decide +kernel
theorem s279_699 {d : Nat} {st : List Value} {σ : am_I} {ρ : am_R} {g : am_J} {τ : am_T} {Q : am_Q} {x0 x1 x2 x3 : Value} {a : Nat} {j : Int32} (ht : τ.1 a = 15) (hj : am_inb j (τ.2.1 a) = true) : AW d 279 699 [x0, x1, x2, x3] (.int j :: .ref a :: st) σ ρ g τ Q = AW d 279 700 [x0, x1, x2, x3] (.int (σ a j.toNatClampNeg) :: st) σ ρ g τ Q := aw_ial m279 d279_699 rfl ht hj
theorem d279_700 : decode cL_law 700 = .ok (.invokevirtual 65, 3) := by decide +kernel
theorem s279_700 {d : Nat} {st : List Value} {σ : am_I} {ρ : am_R} {g : am_J} {τ : am_T} {Q : am_Q} {x0 x1 x2 x3 : Value} {p0 : Nat} {p1 : Int32} {p2 : Int32} {p3 : Int32} (ht : τ.1 p0 = 11) (hs : st.length ≤ 4) : AW (d + 1) 279 700 [x0, x1, x2, x3] (.int p3 :: .int p2 :: .int p1 :: .ref p0 :: st) σ ρ g τ Q = AW d 124 0 [.ref p0, .int p1, .int p2, .int p3, am_jk, am_jk] [] σ ρ g τ (fun r9 σ ρ g τ => AW (d + 1) 279 703 [x0, x1, x2, x3] (r9.toList ++ st) σ ρ g τ Q) := aw_cv m279 d279_700 rfl m124 rfl rfl (by decide) en124 ok124 rfl ht hs
theorem d279_703 : decode cL_law 703 = .ok (.aload_n 2, 1) := by decide +kernel
theorem s279_703 {d : Nat} {st : List Value} {σ : am_I} {ρ : am_R} {g : am_J} {τ : am_T} {Q : am_Q} {x0 x1 x3 : Value} {v : Nat} : AW d 279 703 [x0, x1, .ref v, x3] (st) σ ρ g τ Q = AW d 279 704 [x0, x1, .ref v, x3] (.ref v :: st) σ ρ g τ Q := aw_lc m279 d279_703 rfl rfl rfl
theorem d279_704 : decode cL_law 704 = .ok (.aload_n 0, 1) := by decide +kernel
theorem s279_704 {d : Nat} {st : List Value} {σ : am_I} {ρ : am_R} {g : am_J} {τ : am_T} {Q : am_Q} {x1 x2 x3 : Value} {v : Nat} : AW d 279 704 [.ref v, x1, x2, x3] (st) σ ρ g τ Q = AW d 279 705 [.ref v, x1, x2, x3] (.ref v :: st) σ ρ g τ Q := aw_lc m279 d279_704 rfl rfl rfl
theorem d279_705 : decode cL_law 705 = .ok (.iload_n 3, 1) := by decide +kernel
theorem s279_705 {d : Nat} {st : List Value} {σ : am_I} {ρ : am_R} {g : am_J} {τ : am_T} {Q : am_Q} {x0 x1 x2 : Value} {v : Int32} : AW d 279 705 [x0, x1, x2, .int v] (st) σ ρ g τ Q = AW d 279 706 [x0, x1, x2, .int v] (.int v :: st) σ ρ g τ Q := aw_lc m279 d279_705 rfl rfl rfl
theorem d279_706 : decode cL_law 706 = .ok (.iconst 1, 1) := by decide +kernel
theorem s279_706 {d : Nat} {st : List Value} {σ : am_I} {ρ : am_R} {g : am_J} {τ : am_T} {Q : am_Q} {x0 x1 x2 x3 : Value} : AW d 279 706 [x0, x1, x2, x3] (st) σ ρ g τ Q = AW d 279 707 [x0, x1, x2, x3] (.int 1 :: st) σ ρ g τ Q := aw_lc m279 d279_706 rfl rfl rfl
theorem d279_707 : decode cL_law 707 = .ok (.iadd, 1) := by decide +kernel
theorem s279_707 {d : Nat} {st : List Value} {σ : am_I} {ρ : am_R} {g : am_J} {τ : am_T} {Q : am_Q} {x0 x1 x2 x3 : Value} {v w : Int32} : AW d 279 707 [x0, x1, x2, x3] (.int w :: .int v :: st) σ ρ g τ Q = AW d 279 708 [x0, x1, x2, x3] (.int (v + w) :: st) σ ρ g τ Q := aw_lc m279 d279_707 rfl rfl rfl
theorem d279_708 : decode cL_law 708 = .ok (.iaload, 1) := by decide +kernel
theorem s279_708 {d : Nat} {st : List Value} {σ : am_I} {ρ : am_R} {g : am_J} {τ : am_T} {Q : am_Q} {x0 x1 x2 x3 : Value} {a : Nat} {j : Int32} (ht : τ.1 a = 15) (hj : am_inb j (τ.2.1 a) = true) : AW d 279 708 [x0, x1, x2, x3] (.int j :: .ref a :: st) σ ρ g τ Q = AW d 279 709 [x0, x1, x2, x3] (.int (σ a j.toNatClampNeg) :: st) σ ρ g τ Q := aw_ial m279 d279_708 rfl ht hj
theorem d279_709 : decode cL_law 709 = .ok (.aload_n 0, 1) := by decide +kernel
theorem s279_709 {d : Nat} {st : List Value} {σ : am_I} {ρ : am_R} {g : am_J} {τ : am_T} {Q : am_Q} {x1 x2 x3 : Value} {v : Nat} : AW d 279 709 [.ref v, x1, x2, x3] (st) σ ρ g τ Q = AW d 279 710 [.ref v, x1, x2, x3] (.ref v :: st) σ ρ g τ Q := aw_lc m279 d279_709 rfl rfl rfl
theorem d279_710 : decode cL_law 710 = .ok (.iload_n 3, 1) := by decide +kernel
theorem s279_710 {d : Nat} {st : List Value} {σ : am_I} {ρ : am_R} {g : am_J} {τ : am_T} {Q : am_Q} {x0 x1 x2 : Value} {v : Int32} : AW d 279 710 [x0, x1, x2, .int v] (st) σ ρ g τ Q = AW d 279 711 [x0, x1, x2, .int v] (.int v :: st) σ ρ g τ Q := aw_lc m279 d279_710 rfl rfl rfl
theorem d279_711 : decode cL_law 711 = .ok (.iconst 2, 1) := by decide +kernel
theorem s279_711 {d : Nat} {st : List Value} {σ : am_I} {ρ : am_R} {g : am_J} {τ : am_T} {Q : am_Q} {x0 x1 x2 x3 : Value} : AW d 279 711 [x0, x1, x2, x3] (st) σ ρ g τ Q = AW d 279 712 [x0, x1, x2, x3] (.int 2 :: st) σ ρ g τ Q := aw_lc m279 d279_711 rfl rfl rfl
theorem d279_712 : decode cL_law 712 = .ok (.iadd, 1) := by decide +kernel
theorem s279_712 {d : Nat} {st : List Value} {σ : am_I} {ρ : am_R} {g : am_J} {τ : am_T} {Q : am_Q} {x0 x1 x2 x3 : Value} {v w : Int32} : AW d 279 712 [x0, x1, x2, x3] (.int w :: .int v :: st) σ ρ g τ Q = AW d 279 713 [x0, x1, x2, x3] (.int (v + w) :: st) σ ρ g τ Q := aw_lc m279 d279_712 rfl rfl rfl
theorem d279_713 : decode cL_law 713 = .ok (.iaload, 1) := by decide +kernel
theorem s279_713 {d : Nat} {st : List Value} {σ : am_I} {ρ : am_R} {g : am_J} {τ : am_T} {Q : am_Q} {x0 x1 x2 x3 : Value} {a : Nat} {j : Int32} (ht : τ.1 a = 15) (hj : am_inb j (τ.2.1 a) = true) : AW d 279 713 [x0, x1, x2, x3] (.int j :: .ref a :: st) σ ρ g τ Q = AW d 279 714 [x0, x1, x2, x3] (.int (σ a j.toNatClampNeg) :: st) σ ρ g τ Q := aw_ial m279 d279_713 rfl ht hj
theorem d279_714 : decode cL_law 714 = .ok (.aload_n 0, 1) := by decide +kernel
theorem s279_714 {d : Nat} {st : List Value} {σ : am_I} {ρ : am_R} {g : am_J} {τ : am_T} {Q : am_Q} {x1 x2 x3 : Value} {v : Nat} : AW d 279 714 [.ref v, x1, x2, x3] (st) σ ρ g τ Q = AW d 279 715 [.ref v, x1, x2, x3] (.ref v :: st) σ ρ g τ Q := aw_lc m279 d279_714 rfl rfl rfl
theorem d279_715 : decode cL_law 715 = .ok (.iload_n 3, 1) := by decide +kernel
theorem s279_715 {d : Nat} {st : List Value} {σ : am_I} {ρ : am_R} {g : am_J} {τ : am_T} {Q : am_Q} {x0 x1 x2 : Value} {v : Int32} : AW d 279 715 [x0, x1, x2, .int v] (st) σ ρ g τ Q = AW d 279 716 [x0, x1, x2, .int v] (.int v :: st) σ ρ g τ Q := aw_lc m279 d279_715 rfl rfl rfl
theorem d279_716 : decode cL_law 716 = .ok (.iconst 3, 1) := by decide +kernel
theorem s279_716 {d : Nat} {st : List Value} {σ : am_I} {ρ : am_R} {g : am_J} {τ : am_T} {Q : am_Q} {x0 x1 x2 x3 : Value} : AW d 279 716 [x0, x1, x2, x3] (st) σ ρ g τ Q = AW d 279 717 [x0, x1, x2, x3] (.int 3 :: st) σ ρ g τ Q := aw_lc m279 d279_716 rfl rfl rfl
theorem d279_717 : decode cL_law 717 = .ok (.iadd, 1) := by decide +kernel
theorem s279_717 {d : Nat} {st : List Value} {σ : am_I} {ρ : am_R} {g : am_J} {τ : am_T} {Q : am_Q} {x0 x1 x2 x3 : Value} {v w : Int32} : AW d 279 717 [x0, x1, x2, x3] (.int w :: .int v :: st) σ ρ g τ Q = AW d 279 718 [x0, x1, x2, x3] (.int (v + w) :: st) σ ρ g τ Q := aw_lc m279 d279_717 rfl rfl rfl
theorem d279_718 : decode cL_law 718 = .ok (.iaload, 1) := by decide +kernel
theorem s279_718 {d : Nat} {st : List Value} {σ : am_I} {ρ : am_R} {g : am_J} {τ : am_T} {Q : am_Q} {x0 x1 x2 x3 : Value} {a : Nat} {j : Int32} (ht : τ.1 a = 15) (hj : am_inb j (τ.2.1 a) = true) : AW d 279 718 [x0, x1, x2, x3] (.int j :: .ref a :: st) σ ρ g τ Q = AW d 279 719 [x0, x1, x2, x3] (.int (σ a j.toNatClampNeg) :: st) σ ρ g τ Q := aw_ial m279 d279_718 rfl ht hj
theorem d279_719 : decode cL_law 719 = .ok (.invokevirtual 68, 3) := by decide +kernel
theorem s279_719 {d : Nat} {st : List Value} {σ : am_I} {ρ : am_R} {g : am_J} {τ : am_T} {Q : am_Q} {x0 x1 x2 x3 : Value} {p0 : Nat} {p1 : Int32} {p2 : Int32} {p3 : Int32} (ht : τ.1 p0 = 12) (hs : st.length ≤ 4) : AW (d + 1) 279 719 [x0, x1, x2, x3] (.int p3 :: .int p2 :: .int p1 :: .ref p0 :: st) σ ρ g τ Q = AW d 213 0 [.ref p0, .int p1, .int p2, .int p3] [] σ ρ g τ (fun r9 σ ρ g τ => AW (d + 1) 279 722 [x0, x1, x2, x3] (r9.toList ++ st) σ ρ g τ Q) := aw_cv m279 d279_719 rfl m213 rfl rfl (by decide) en213 ok213 rfl ht hs
theorem d279_722 : decode cL_law 722 = .ok (.if_icmp .eq 1091, 3) := by decide +kernel
theorem s279_722 {d : Nat} {st : List Value} {σ : am_I} {ρ : am_R} {g : am_J} {τ : am_T} {Q : am_Q} {x0 x1 x2 x3 : Value} {v w : Int32} : AW d 279 722 [x0, x1, x2, x3] (.int w :: .int v :: st) σ ρ g τ Q = if v = w then AW d 279 1813 [x0, x1, x2, x3] (st) σ ρ g τ Q else AW d 279 725 [x0, x1, x2, x3] (st) σ ρ g τ Q := aw_br m279 d279_722 rfl rfl rfl
theorem d279_725 : decode cL_law 725 = .ok (.iconst 0, 1) := by decide +kernel
theorem s279_725 {d : Nat} {st : List Value} {σ : am_I} {ρ : am_R} {g : am_J} {τ : am_T} {Q : am_Q} {x0 x1 x2 x3 : Value} : AW d 279 725 [x0, x1, x2, x3] (st) σ ρ g τ Q = AW d 279 726 [x0, x1, x2, x3] (.int 0 :: st) σ ρ g τ Q := aw_lc m279 d279_725 rfl rfl rfl
theorem d279_726 : decode cL_law 726 = .ok (.ireturn, 1) := by decide +kernel
theorem s279_726 {d : Nat} {σ : am_I} {ρ : am_R} {g : am_J} {τ : am_T} {Q : am_Q} {x0 x1 x2 x3 : Value} {v : Int32} (hv : am_b01 v = true) : AW d 279 726 [x0, x1, x2, x3] ([.int v]) σ ρ g τ Q = Q (some (.int v)) σ ρ g τ := aw_rz m279 d279_726 rfl hv
theorem d279_727 : decode cL_law 727 = .ok (.aload_n 1, 1) := by decide +kernel
theorem s279_727 {d : Nat} {st : List Value} {σ : am_I} {ρ : am_R} {g : am_J} {τ : am_T} {Q : am_Q} {x0 x2 x3 : Value} {v : Nat} : AW d 279 727 [x0, .ref v, x2, x3] (st) σ ρ g τ Q = AW d 279 728 [x0, .ref v, x2, x3] (.ref v :: st) σ ρ g τ Q := aw_lc m279 d279_727 rfl rfl rfl
theorem d279_728 : decode cL_law 728 = .ok (.aload_n 0, 1) := by decide +kernel
theorem s279_728 {d : Nat} {st : List Value} {σ : am_I} {ρ : am_R} {g : am_J} {τ : am_T} {Q : am_Q} {x1 x2 x3 : Value} {v : Nat} : AW d 279 728 [.ref v, x1, x2, x3] (st) σ ρ g τ Q = AW d 279 729 [.ref v, x1, x2, x3] (.ref v :: st) σ ρ g τ Q := aw_lc m279 d279_728 rfl rfl rfl
theorem d279_729 : decode cL_law 729 = .ok (.iload_n 3, 1) := by decide +kernel
theorem s279_729 {d : Nat} {st : List Value} {σ : am_I} {ρ : am_R} {g : am_J} {τ : am_T} {Q : am_Q} {x0 x1 x2 : Value} {v : Int32} : AW d 279 729 [x0, x1, x2, .int v] (st) σ ρ g τ Q = AW d 279 730 [x0, x1, x2, .int v] (.int v :: st) σ ρ g τ Q := aw_lc m279 d279_729 rfl rfl rfl
theorem d279_730 : decode cL_law 730 = .ok (.iconst 1, 1) := by decide +kernel
theorem s279_730 {d : Nat} {st : List Value} {σ : am_I} {ρ : am_R} {g : am_J} {τ : am_T} {Q : am_Q} {x0 x1 x2 x3 : Value} : AW d 279 730 [x0, x1, x2, x3] (st) σ ρ g τ Q = AW d 279 731 [x0, x1, x2, x3] (.int 1 :: st) σ ρ g τ Q := aw_lc m279 d279_730 rfl rfl rfl
theorem d279_731 : decode cL_law 731 = .ok (.iadd, 1) := by decide +kernel
theorem s279_731 {d : Nat} {st : List Value} {σ : am_I} {ρ : am_R} {g : am_J} {τ : am_T} {Q : am_Q} {x0 x1 x2 x3 : Value} {v w : Int32} : AW d 279 731 [x0, x1, x2, x3] (.int w :: .int v :: st) σ ρ g τ Q = AW d 279 732 [x0, x1, x2, x3] (.int (v + w) :: st) σ ρ g τ Q := aw_lc m279 d279_731 rfl rfl rfl
theorem d279_732 : decode cL_law 732 = .ok (.iaload, 1) := by decide +kernel
theorem s279_732 {d : Nat} {st : List Value} {σ : am_I} {ρ : am_R} {g : am_J} {τ : am_T} {Q : am_Q} {x0 x1 x2 x3 : Value} {a : Nat} {j : Int32} (ht : τ.1 a = 15) (hj : am_inb j (τ.2.1 a) = true) : AW d 279 732 [x0, x1, x2, x3] (.int j :: .ref a :: st) σ ρ g τ Q = AW d 279 733 [x0, x1, x2, x3] (.int (σ a j.toNatClampNeg) :: st) σ ρ g τ Q := aw_ial m279 d279_732 rfl ht hj
theorem d279_733 : decode cL_law 733 = .ok (.invokevirtual 69, 3) := by decide +kernel
theorem s279_733 {d : Nat} {st : List Value} {σ : am_I} {ρ : am_R} {g : am_J} {τ : am_T} {Q : am_Q} {x0 x1 x2 x3 : Value} {p0 : Nat} {p1 : Int32} (ht : τ.1 p0 = 11) (hs : st.length ≤ 4) : AW (d + 1) 279 733 [x0, x1, x2, x3] (.int p1 :: .ref p0 :: st) σ ρ g τ Q = AW d 125 0 [.ref p0, .int p1] [] σ ρ g τ (fun r9 σ ρ g τ => AW (d + 1) 279 736 [x0, x1, x2, x3] (r9.toList ++ st) σ ρ g τ Q) := aw_cv m279 d279_733 rfl m125 rfl rfl (by decide) en125 ok125 rfl ht hs
theorem d279_736 : decode cL_law 736 = .ok (.aload_n 2, 1) := by decide +kernel
theorem s279_736 {d : Nat} {st : List Value} {σ : am_I} {ρ : am_R} {g : am_J} {τ : am_T} {Q : am_Q} {x0 x1 x3 : Value} {v : Nat} : AW d 279 736 [x0, x1, .ref v, x3] (st) σ ρ g τ Q = AW d 279 737 [x0, x1, .ref v, x3] (.ref v :: st) σ ρ g τ Q := aw_lc m279 d279_736 rfl rfl rfl
theorem d279_737 : decode cL_law 737 = .ok (.aload_n 0, 1) := by decide +kernel
theorem s279_737 {d : Nat} {st : List Value} {σ : am_I} {ρ : am_R} {g : am_J} {τ : am_T} {Q : am_Q} {x1 x2 x3 : Value} {v : Nat} : AW d 279 737 [.ref v, x1, x2, x3] (st) σ ρ g τ Q = AW d 279 738 [.ref v, x1, x2, x3] (.ref v :: st) σ ρ g τ Q := aw_lc m279 d279_737 rfl rfl rfl
theorem d279_738 : decode cL_law 738 = .ok (.iload_n 3, 1) := by decide +kernel
theorem s279_738 {d : Nat} {st : List Value} {σ : am_I} {ρ : am_R} {g : am_J} {τ : am_T} {Q : am_Q} {x0 x1 x2 : Value} {v : Int32} : AW d 279 738 [x0, x1, x2, .int v] (st) σ ρ g τ Q = AW d 279 739 [x0, x1, x2, .int v] (.int v :: st) σ ρ g τ Q := aw_lc m279 d279_738 rfl rfl rfl
theorem d279_739 : decode cL_law 739 = .ok (.iconst 1, 1) := by decide +kernel
theorem s279_739 {d : Nat} {st : List Value} {σ : am_I} {ρ : am_R} {g : am_J} {τ : am_T} {Q : am_Q} {x0 x1 x2 x3 : Value} : AW d 279 739 [x0, x1, x2, x3] (st) σ ρ g τ Q = AW d 279 740 [x0, x1, x2, x3] (.int 1 :: st) σ ρ g τ Q := aw_lc m279 d279_739 rfl rfl rfl
theorem d279_740 : decode cL_law 740 = .ok (.iadd, 1) := by decide +kernel
theorem s279_740 {d : Nat} {st : List Value} {σ : am_I} {ρ : am_R} {g : am_J} {τ : am_T} {Q : am_Q} {x0 x1 x2 x3 : Value} {v w : Int32} : AW d 279 740 [x0, x1, x2, x3] (.int w :: .int v :: st) σ ρ g τ Q = AW d 279 741 [x0, x1, x2, x3] (.int (v + w) :: st) σ ρ g τ Q := aw_lc m279 d279_740 rfl rfl rfl
theorem d279_741 : decode cL_law 741 = .ok (.iaload, 1) := by decide +kernel
theorem s279_741 {d : Nat} {st : List Value} {σ : am_I} {ρ : am_R} {g : am_J} {τ : am_T} {Q : am_Q} {x0 x1 x2 x3 : Value} {a : Nat} {j : Int32} (ht : τ.1 a = 15) (hj : am_inb j (τ.2.1 a) = true) : AW d 279 741 [x0, x1, x2, x3] (.int j :: .ref a :: st) σ ρ g τ Q = AW d 279 742 [x0, x1, x2, x3] (.int (σ a j.toNatClampNeg) :: st) σ ρ g τ Q := aw_ial m279 d279_741 rfl ht hj
theorem d279_742 : decode cL_law 742 = .ok (.invokevirtual 72, 3) := by decide +kernel
theorem s279_742 {d : Nat} {st : List Value} {σ : am_I} {ρ : am_R} {g : am_J} {τ : am_T} {Q : am_Q} {x0 x1 x2 x3 : Value} {p0 : Nat} {p1 : Int32} (ht : τ.1 p0 = 12) (hs : st.length ≤ 4) : AW (d + 1) 279 742 [x0, x1, x2, x3] (.int p1 :: .ref p0 :: st) σ ρ g τ Q = AW d 214 0 [.ref p0, .int p1] [] σ ρ g τ (fun r9 σ ρ g τ => AW (d + 1) 279 745 [x0, x1, x2, x3] (r9.toList ++ st) σ ρ g τ Q) := aw_cv m279 d279_742 rfl m214 rfl rfl (by decide) en214 ok214 rfl ht hs
theorem d279_745 : decode cL_law 745 = .ok (.if_icmp .eq 1068, 3) := by decide +kernel
theorem s279_745 {d : Nat} {st : List Value} {σ : am_I} {ρ : am_R} {g : am_J} {τ : am_T} {Q : am_Q} {x0 x1 x2 x3 : Value} {v w : Int32} : AW d 279 745 [x0, x1, x2, x3] (.int w :: .int v :: st) σ ρ g τ Q = if v = w then AW d 279 1813 [x0, x1, x2, x3] (st) σ ρ g τ Q else AW d 279 748 [x0, x1, x2, x3] (st) σ ρ g τ Q := aw_br m279 d279_745 rfl rfl rfl
theorem d279_748 : decode cL_law 748 = .ok (.iconst 0, 1) := by decide +kernel
theorem s279_748 {d : Nat} {st : List Value} {σ : am_I} {ρ : am_R} {g : am_J} {τ : am_T} {Q : am_Q} {x0 x1 x2 x3 : Value} : AW d 279 748 [x0, x1, x2, x3] (st) σ ρ g τ Q = AW d 279 749 [x0, x1, x2, x3] (.int 0 :: st) σ ρ g τ Q := aw_lc m279 d279_748 rfl rfl rfl
theorem d279_749 : decode cL_law 749 = .ok (.ireturn, 1) := by decide +kernel
theorem s279_749 {d : Nat} {σ : am_I} {ρ : am_R} {g : am_J} {τ : am_T} {Q : am_Q} {x0 x1 x2 x3 : Value} {v : Int32} (hv : am_b01 v = true) : AW d 279 749 [x0, x1, x2, x3] ([.int v]) σ ρ g τ Q = Q (some (.int v)) σ ρ g τ := aw_rz m279 d279_749 rfl hv
theorem d279_750 : decode cL_law 750 = .ok (.aload_n 1, 1) := by decide +kernel
theorem s279_750 {d : Nat} {st : List Value} {σ : am_I} {ρ : am_R} {g : am_J} {τ : am_T} {Q : am_Q} {x0 x2 x3 : Value} {v : Nat} : AW d 279 750 [x0, .ref v, x2, x3] (st) σ ρ g τ Q = AW d 279 751 [x0, .ref v, x2, x3] (.ref v :: st) σ ρ g τ Q := aw_lc m279 d279_750 rfl rfl rfl
theorem d279_751 : decode cL_law 751 = .ok (.aload_n 0, 1) := by decide +kernel
theorem s279_751 {d : Nat} {st : List Value} {σ : am_I} {ρ : am_R} {g : am_J} {τ : am_T} {Q : am_Q} {x1 x2 x3 : Value} {v : Nat} : AW d 279 751 [.ref v, x1, x2, x3] (st) σ ρ g τ Q = AW d 279 752 [.ref v, x1, x2, x3] (.ref v :: st) σ ρ g τ Q := aw_lc m279 d279_751 rfl rfl rfl
theorem d279_752 : decode cL_law 752 = .ok (.iload_n 3, 1) := by decide +kernel
theorem s279_752 {d : Nat} {st : List Value} {σ : am_I} {ρ : am_R} {g : am_J} {τ : am_T} {Q : am_Q} {x0 x1 x2 : Value} {v : Int32} : AW d 279 752 [x0, x1, x2, .int v] (st) σ ρ g τ Q = AW d 279 753 [x0, x1, x2, .int v] (.int v :: st) σ ρ g τ Q := aw_lc m279 d279_752 rfl rfl rfl
theorem d279_753 : decode cL_law 753 = .ok (.iconst 1, 1) := by decide +kernel
theorem s279_753 {d : Nat} {st : List Value} {σ : am_I} {ρ : am_R} {g : am_J} {τ : am_T} {Q : am_Q} {x0 x1 x2 x3 : Value} : AW d 279 753 [x0, x1, x2, x3] (st) σ ρ g τ Q = AW d 279 754 [x0, x1, x2, x3] (.int 1 :: st) σ ρ g τ Q := aw_lc m279 d279_753 rfl rfl rfl
theorem d279_754 : decode cL_law 754 = .ok (.iadd, 1) := by decide +kernel
theorem s279_754 {d : Nat} {st : List Value} {σ : am_I} {ρ : am_R} {g : am_J} {τ : am_T} {Q : am_Q} {x0 x1 x2 x3 : Value} {v w : Int32} : AW d 279 754 [x0, x1, x2, x3] (.int w :: .int v :: st) σ ρ g τ Q = AW d 279 755 [x0, x1, x2, x3] (.int (v + w) :: st) σ ρ g τ Q := aw_lc m279 d279_754 rfl rfl rfl
theorem d279_755 : decode cL_law 755 = .ok (.iaload, 1) := by decide +kernel
theorem s279_755 {d : Nat} {st : List Value} {σ : am_I} {ρ : am_R} {g : am_J} {τ : am_T} {Q : am_Q} {x0 x1 x2 x3 : Value} {a : Nat} {j : Int32} (ht : τ.1 a = 15) (hj : am_inb j (τ.2.1 a) = true) : AW d 279 755 [x0, x1, x2, x3] (.int j :: .ref a :: st) σ ρ g τ Q = AW d 279 756 [x0, x1, x2, x3] (.int (σ a j.toNatClampNeg) :: st) σ ρ g τ Q := aw_ial m279 d279_755 rfl ht hj
theorem d279_756 : decode cL_law 756 = .ok (.i2l, 1) := by decide +kernel
theorem s279_756 {d : Nat} {st : List Value} {σ : am_I} {ρ : am_R} {g : am_J} {τ : am_T} {Q : am_Q} {x0 x1 x2 x3 : Value} {v : Int32} : AW d 279 756 [x0, x1, x2, x3] (.int v :: st) σ ρ g τ Q = AW d 279 757 [x0, x1, x2, x3] (.long v.toInt64 :: st) σ ρ g τ Q := aw_lc m279 d279_756 rfl rfl rfl
theorem d279_757 : decode cL_law 757 = .ok (.bipush 32, 2) := by decide +kernel
theorem s279_757 {d : Nat} {st : List Value} {σ : am_I} {ρ : am_R} {g : am_J} {τ : am_T} {Q : am_Q} {x0 x1 x2 x3 : Value} : AW d 279 757 [x0, x1, x2, x3] (st) σ ρ g τ Q = AW d 279 759 [x0, x1, x2, x3] (.int 32 :: st) σ ρ g τ Q := aw_lc m279 d279_757 rfl rfl rfl
theorem d279_759 : decode cL_law 759 = .ok (.lshl, 1) := by decide +kernel
theorem s279_759 {d : Nat} {st : List Value} {σ : am_I} {ρ : am_R} {g : am_J} {τ : am_T} {Q : am_Q} {x0 x1 x2 x3 : Value} {v : Int64} {w : Int32} : AW d 279 759 [x0, x1, x2, x3] (.int w :: .long v :: st) σ ρ g τ Q = AW d 279 760 [x0, x1, x2, x3] (.long (v <<< (w.toInt64 &&& 63)) :: st) σ ρ g τ Q := aw_lc m279 d279_759 rfl rfl rfl
theorem d279_760 : decode cL_law 760 = .ok (.aload_n 0, 1) := by decide +kernel
theorem s279_760 {d : Nat} {st : List Value} {σ : am_I} {ρ : am_R} {g : am_J} {τ : am_T} {Q : am_Q} {x1 x2 x3 : Value} {v : Nat} : AW d 279 760 [.ref v, x1, x2, x3] (st) σ ρ g τ Q = AW d 279 761 [.ref v, x1, x2, x3] (.ref v :: st) σ ρ g τ Q := aw_lc m279 d279_760 rfl rfl rfl
theorem d279_761 : decode cL_law 761 = .ok (.iload_n 3, 1) := by decide +kernel
theorem s279_761 {d : Nat} {st : List Value} {σ : am_I} {ρ : am_R} {g : am_J} {τ : am_T} {Q : am_Q} {x0 x1 x2 : Value} {v : Int32} : AW d 279 761 [x0, x1, x2, .int v] (st) σ ρ g τ Q = AW d 279 762 [x0, x1, x2, .int v] (.int v :: st) σ ρ g τ Q := aw_lc m279 d279_761 rfl rfl rfl
theorem d279_762 : decode cL_law 762 = .ok (.iconst 2, 1) := by decide +kernel
theorem s279_762 {d : Nat} {st : List Value} {σ : am_I} {ρ : am_R} {g : am_J} {τ : am_T} {Q : am_Q} {x0 x1 x2 x3 : Value} : AW d 279 762 [x0, x1, x2, x3] (st) σ ρ g τ Q = AW d 279 763 [x0, x1, x2, x3] (.int 2 :: st) σ ρ g τ Q := aw_lc m279 d279_762 rfl rfl rfl
theorem d279_763 : decode cL_law 763 = .ok (.iadd, 1) := by decide +kernel
theorem s279_763 {d : Nat} {st : List Value} {σ : am_I} {ρ : am_R} {g : am_J} {τ : am_T} {Q : am_Q} {x0 x1 x2 x3 : Value} {v w : Int32} : AW d 279 763 [x0, x1, x2, x3] (.int w :: .int v :: st) σ ρ g τ Q = AW d 279 764 [x0, x1, x2, x3] (.int (v + w) :: st) σ ρ g τ Q := aw_lc m279 d279_763 rfl rfl rfl
theorem d279_764 : decode cL_law 764 = .ok (.iaload, 1) := by decide +kernel
theorem s279_764 {d : Nat} {st : List Value} {σ : am_I} {ρ : am_R} {g : am_J} {τ : am_T} {Q : am_Q} {x0 x1 x2 x3 : Value} {a : Nat} {j : Int32} (ht : τ.1 a = 15) (hj : am_inb j (τ.2.1 a) = true) : AW d 279 764 [x0, x1, x2, x3] (.int j :: .ref a :: st) σ ρ g τ Q = AW d 279 765 [x0, x1, x2, x3] (.int (σ a j.toNatClampNeg) :: st) σ ρ g τ Q := aw_ial m279 d279_764 rfl ht hj
theorem d279_765 : decode cL_law 765 = .ok (.i2l, 1) := by decide +kernel
theorem s279_765 {d : Nat} {st : List Value} {σ : am_I} {ρ : am_R} {g : am_J} {τ : am_T} {Q : am_Q} {x0 x1 x2 x3 : Value} {v : Int32} : AW d 279 765 [x0, x1, x2, x3] (.int v :: st) σ ρ g τ Q = AW d 279 766 [x0, x1, x2, x3] (.long v.toInt64 :: st) σ ρ g τ Q := aw_lc m279 d279_765 rfl rfl rfl
theorem d279_766 : decode cL_law 766 = .ok (.ldc2_w 73, 3) := by decide +kernel
theorem s279_766 {d : Nat} {st : List Value} {σ : am_I} {ρ : am_R} {g : am_J} {τ : am_T} {Q : am_Q} {x0 x1 x2 x3 : Value} : AW d 279 766 [x0, x1, x2, x3] (st) σ ρ g τ Q = AW d 279 769 [x0, x1, x2, x3] (.long 4294967295 :: st) σ ρ g τ Q := aw_ldl m279 d279_766 rfl rfl
theorem d279_769 : decode cL_law 769 = .ok (.land, 1) := by decide +kernel
theorem s279_769 {d : Nat} {st : List Value} {σ : am_I} {ρ : am_R} {g : am_J} {τ : am_T} {Q : am_Q} {x0 x1 x2 x3 : Value} {v w : Int64} : AW d 279 769 [x0, x1, x2, x3] (.long w :: .long v :: st) σ ρ g τ Q = AW d 279 770 [x0, x1, x2, x3] (.long (v &&& w) :: st) σ ρ g τ Q := aw_lc m279 d279_769 rfl rfl rfl
theorem d279_770 : decode cL_law 770 = .ok (.lor, 1) := by decide +kernel
theorem s279_770 {d : Nat} {st : List Value} {σ : am_I} {ρ : am_R} {g : am_J} {τ : am_T} {Q : am_Q} {x0 x1 x2 x3 : Value} {v w : Int64} : AW d 279 770 [x0, x1, x2, x3] (.long w :: .long v :: st) σ ρ g τ Q = AW d 279 771 [x0, x1, x2, x3] (.long (v ||| w) :: st) σ ρ g τ Q := aw_lc m279 d279_770 rfl rfl rfl
theorem d279_771 : decode cL_law 771 = .ok (.aload_n 0, 1) := by decide +kernel
theorem s279_771 {d : Nat} {st : List Value} {σ : am_I} {ρ : am_R} {g : am_J} {τ : am_T} {Q : am_Q} {x1 x2 x3 : Value} {v : Nat} : AW d 279 771 [.ref v, x1, x2, x3] (st) σ ρ g τ Q = AW d 279 772 [.ref v, x1, x2, x3] (.ref v :: st) σ ρ g τ Q := aw_lc m279 d279_771 rfl rfl rfl
theorem d279_772 : decode cL_law 772 = .ok (.iload_n 3, 1) := by decide +kernel
theorem s279_772 {d : Nat} {st : List Value} {σ : am_I} {ρ : am_R} {g : am_J} {τ : am_T} {Q : am_Q} {x0 x1 x2 : Value} {v : Int32} : AW d 279 772 [x0, x1, x2, .int v] (st) σ ρ g τ Q = AW d 279 773 [x0, x1, x2, .int v] (.int v :: st) σ ρ g τ Q := aw_lc m279 d279_772 rfl rfl rfl
theorem d279_773 : decode cL_law 773 = .ok (.iconst 3, 1) := by decide +kernel
theorem s279_773 {d : Nat} {st : List Value} {σ : am_I} {ρ : am_R} {g : am_J} {τ : am_T} {Q : am_Q} {x0 x1 x2 x3 : Value} : AW d 279 773 [x0, x1, x2, x3] (st) σ ρ g τ Q = AW d 279 774 [x0, x1, x2, x3] (.int 3 :: st) σ ρ g τ Q := aw_lc m279 d279_773 rfl rfl rfl
theorem d279_774 : decode cL_law 774 = .ok (.iadd, 1) := by decide +kernel
theorem s279_774 {d : Nat} {st : List Value} {σ : am_I} {ρ : am_R} {g : am_J} {τ : am_T} {Q : am_Q} {x0 x1 x2 x3 : Value} {v w : Int32} : AW d 279 774 [x0, x1, x2, x3] (.int w :: .int v :: st) σ ρ g τ Q = AW d 279 775 [x0, x1, x2, x3] (.int (v + w) :: st) σ ρ g τ Q := aw_lc m279 d279_774 rfl rfl rfl
theorem d279_775 : decode cL_law 775 = .ok (.iaload, 1) := by decide +kernel
theorem s279_775 {d : Nat} {st : List Value} {σ : am_I} {ρ : am_R} {g : am_J} {τ : am_T} {Q : am_Q} {x0 x1 x2 x3 : Value} {a : Nat} {j : Int32} (ht : τ.1 a = 15) (hj : am_inb j (τ.2.1 a) = true) : AW d 279 775 [x0, x1, x2, x3] (.int j :: .ref a :: st) σ ρ g τ Q = AW d 279 776 [x0, x1, x2, x3] (.int (σ a j.toNatClampNeg) :: st) σ ρ g τ Q := aw_ial m279 d279_775 rfl ht hj
theorem d279_776 : decode cL_law 776 = .ok (.invokevirtual 75, 3) := by decide +kernel
theorem s279_776 {d : Nat} {st : List Value} {σ : am_I} {ρ : am_R} {g : am_J} {τ : am_T} {Q : am_Q} {x0 x1 x2 x3 : Value} {p0 : Nat} {p1 : Int64} {p2 : Int32} (ht : τ.1 p0 = 11) (hs : st.length ≤ 4) : AW (d + 1) 279 776 [x0, x1, x2, x3] (.int p2 :: .long p1 :: .ref p0 :: st) σ ρ g τ Q = AW d 126 0 [.ref p0, .long p1, am_jk, .int p2, am_jk] [] σ ρ g τ (fun r9 σ ρ g τ => AW (d + 1) 279 779 [x0, x1, x2, x3] (r9.toList ++ st) σ ρ g τ Q) := aw_cv m279 d279_776 rfl m126 rfl rfl (by decide) en126 ok126 rfl ht hs
theorem d279_779 : decode cL_law 779 = .ok (.aload_n 2, 1) := by decide +kernel
theorem s279_779 {d : Nat} {st : List Value} {σ : am_I} {ρ : am_R} {g : am_J} {τ : am_T} {Q : am_Q} {x0 x1 x3 : Value} {v : Nat} : AW d 279 779 [x0, x1, .ref v, x3] (st) σ ρ g τ Q = AW d 279 780 [x0, x1, .ref v, x3] (.ref v :: st) σ ρ g τ Q := aw_lc m279 d279_779 rfl rfl rfl
theorem d279_780 : decode cL_law 780 = .ok (.aload_n 0, 1) := by decide +kernel
theorem s279_780 {d : Nat} {st : List Value} {σ : am_I} {ρ : am_R} {g : am_J} {τ : am_T} {Q : am_Q} {x1 x2 x3 : Value} {v : Nat} : AW d 279 780 [.ref v, x1, x2, x3] (st) σ ρ g τ Q = AW d 279 781 [.ref v, x1, x2, x3] (.ref v :: st) σ ρ g τ Q := aw_lc m279 d279_780 rfl rfl rfl
theorem d279_781 : decode cL_law 781 = .ok (.iload_n 3, 1) := by decide +kernel
theorem s279_781 {d : Nat} {st : List Value} {σ : am_I} {ρ : am_R} {g : am_J} {τ : am_T} {Q : am_Q} {x0 x1 x2 : Value} {v : Int32} : AW d 279 781 [x0, x1, x2, .int v] (st) σ ρ g τ Q = AW d 279 782 [x0, x1, x2, .int v] (.int v :: st) σ ρ g τ Q := aw_lc m279 d279_781 rfl rfl rfl
theorem d279_782 : decode cL_law 782 = .ok (.iconst 1, 1) := by decide +kernel
theorem s279_782 {d : Nat} {st : List Value} {σ : am_I} {ρ : am_R} {g : am_J} {τ : am_T} {Q : am_Q} {x0 x1 x2 x3 : Value} : AW d 279 782 [x0, x1, x2, x3] (st) σ ρ g τ Q = AW d 279 783 [x0, x1, x2, x3] (.int 1 :: st) σ ρ g τ Q := aw_lc m279 d279_782 rfl rfl rfl
theorem d279_783 : decode cL_law 783 = .ok (.iadd, 1) := by decide +kernel
theorem s279_783 {d : Nat} {st : List Value} {σ : am_I} {ρ : am_R} {g : am_J} {τ : am_T} {Q : am_Q} {x0 x1 x2 x3 : Value} {v w : Int32} : AW d 279 783 [x0, x1, x2, x3] (.int w :: .int v :: st) σ ρ g τ Q = AW d 279 784 [x0, x1, x2, x3] (.int (v + w) :: st) σ ρ g τ Q := aw_lc m279 d279_783 rfl rfl rfl
theorem d279_784 : decode cL_law 784 = .ok (.iaload, 1) := by decide +kernel
theorem s279_784 {d : Nat} {st : List Value} {σ : am_I} {ρ : am_R} {g : am_J} {τ : am_T} {Q : am_Q} {x0 x1 x2 x3 : Value} {a : Nat} {j : Int32} (ht : τ.1 a = 15) (hj : am_inb j (τ.2.1 a) = true) : AW d 279 784 [x0, x1, x2, x3] (.int j :: .ref a :: st) σ ρ g τ Q = AW d 279 785 [x0, x1, x2, x3] (.int (σ a j.toNatClampNeg) :: st) σ ρ g τ Q := aw_ial m279 d279_784 rfl ht hj
theorem d279_785 : decode cL_law 785 = .ok (.i2l, 1) := by decide +kernel
theorem s279_785 {d : Nat} {st : List Value} {σ : am_I} {ρ : am_R} {g : am_J} {τ : am_T} {Q : am_Q} {x0 x1 x2 x3 : Value} {v : Int32} : AW d 279 785 [x0, x1, x2, x3] (.int v :: st) σ ρ g τ Q = AW d 279 786 [x0, x1, x2, x3] (.long v.toInt64 :: st) σ ρ g τ Q := aw_lc m279 d279_785 rfl rfl rfl
theorem d279_786 : decode cL_law 786 = .ok (.bipush 32, 2) := by decide +kernel
theorem s279_786 {d : Nat} {st : List Value} {σ : am_I} {ρ : am_R} {g : am_J} {τ : am_T} {Q : am_Q} {x0 x1 x2 x3 : Value} : AW d 279 786 [x0, x1, x2, x3] (st) σ ρ g τ Q = AW d 279 788 [x0, x1, x2, x3] (.int 32 :: st) σ ρ g τ Q := aw_lc m279 d279_786 rfl rfl rfl
theorem d279_788 : decode cL_law 788 = .ok (.lshl, 1) := by decide +kernel
theorem s279_788 {d : Nat} {st : List Value} {σ : am_I} {ρ : am_R} {g : am_J} {τ : am_T} {Q : am_Q} {x0 x1 x2 x3 : Value} {v : Int64} {w : Int32} : AW d 279 788 [x0, x1, x2, x3] (.int w :: .long v :: st) σ ρ g τ Q = AW d 279 789 [x0, x1, x2, x3] (.long (v <<< (w.toInt64 &&& 63)) :: st) σ ρ g τ Q := aw_lc m279 d279_788 rfl rfl rfl
theorem d279_789 : decode cL_law 789 = .ok (.aload_n 0, 1) := by decide +kernel
theorem s279_789 {d : Nat} {st : List Value} {σ : am_I} {ρ : am_R} {g : am_J} {τ : am_T} {Q : am_Q} {x1 x2 x3 : Value} {v : Nat} : AW d 279 789 [.ref v, x1, x2, x3] (st) σ ρ g τ Q = AW d 279 790 [.ref v, x1, x2, x3] (.ref v :: st) σ ρ g τ Q := aw_lc m279 d279_789 rfl rfl rfl
theorem d279_790 : decode cL_law 790 = .ok (.iload_n 3, 1) := by decide +kernel
theorem s279_790 {d : Nat} {st : List Value} {σ : am_I} {ρ : am_R} {g : am_J} {τ : am_T} {Q : am_Q} {x0 x1 x2 : Value} {v : Int32} : AW d 279 790 [x0, x1, x2, .int v] (st) σ ρ g τ Q = AW d 279 791 [x0, x1, x2, .int v] (.int v :: st) σ ρ g τ Q := aw_lc m279 d279_790 rfl rfl rfl
theorem d279_791 : decode cL_law 791 = .ok (.iconst 2, 1) := by decide +kernel
theorem s279_791 {d : Nat} {st : List Value} {σ : am_I} {ρ : am_R} {g : am_J} {τ : am_T} {Q : am_Q} {x0 x1 x2 x3 : Value} : AW d 279 791 [x0, x1, x2, x3] (st) σ ρ g τ Q = AW d 279 792 [x0, x1, x2, x3] (.int 2 :: st) σ ρ g τ Q := aw_lc m279 d279_791 rfl rfl rfl
theorem d279_792 : decode cL_law 792 = .ok (.iadd, 1) := by decide +kernel
theorem s279_792 {d : Nat} {st : List Value} {σ : am_I} {ρ : am_R} {g : am_J} {τ : am_T} {Q : am_Q} {x0 x1 x2 x3 : Value} {v w : Int32} : AW d 279 792 [x0, x1, x2, x3] (.int w :: .int v :: st) σ ρ g τ Q = AW d 279 793 [x0, x1, x2, x3] (.int (v + w) :: st) σ ρ g τ Q := aw_lc m279 d279_792 rfl rfl rfl
theorem d279_793 : decode cL_law 793 = .ok (.iaload, 1) := by decide +kernel
theorem s279_793 {d : Nat} {st : List Value} {σ : am_I} {ρ : am_R} {g : am_J} {τ : am_T} {Q : am_Q} {x0 x1 x2 x3 : Value} {a : Nat} {j : Int32} (ht : τ.1 a = 15) (hj : am_inb j (τ.2.1 a) = true) : AW d 279 793 [x0, x1, x2, x3] (.int j :: .ref a :: st) σ ρ g τ Q = AW d 279 794 [x0, x1, x2, x3] (.int (σ a j.toNatClampNeg) :: st) σ ρ g τ Q := aw_ial m279 d279_793 rfl ht hj
theorem d279_794 : decode cL_law 794 = .ok (.i2l, 1) := by decide +kernel
theorem s279_794 {d : Nat} {st : List Value} {σ : am_I} {ρ : am_R} {g : am_J} {τ : am_T} {Q : am_Q} {x0 x1 x2 x3 : Value} {v : Int32} : AW d 279 794 [x0, x1, x2, x3] (.int v :: st) σ ρ g τ Q = AW d 279 795 [x0, x1, x2, x3] (.long v.toInt64 :: st) σ ρ g τ Q := aw_lc m279 d279_794 rfl rfl rfl
theorem d279_795 : decode cL_law 795 = .ok (.ldc2_w 73, 3) := by decide +kernel
theorem s279_795 {d : Nat} {st : List Value} {σ : am_I} {ρ : am_R} {g : am_J} {τ : am_T} {Q : am_Q} {x0 x1 x2 x3 : Value} : AW d 279 795 [x0, x1, x2, x3] (st) σ ρ g τ Q = AW d 279 798 [x0, x1, x2, x3] (.long 4294967295 :: st) σ ρ g τ Q := aw_ldl m279 d279_795 rfl rfl
theorem d279_798 : decode cL_law 798 = .ok (.land, 1) := by decide +kernel
theorem s279_798 {d : Nat} {st : List Value} {σ : am_I} {ρ : am_R} {g : am_J} {τ : am_T} {Q : am_Q} {x0 x1 x2 x3 : Value} {v w : Int64} : AW d 279 798 [x0, x1, x2, x3] (.long w :: .long v :: st) σ ρ g τ Q = AW d 279 799 [x0, x1, x2, x3] (.long (v &&& w) :: st) σ ρ g τ Q := aw_lc m279 d279_798 rfl rfl rfl
theorem d279_799 : decode cL_law 799 = .ok (.lor, 1) := by decide +kernel
theorem s279_799 {d : Nat} {st : List Value} {σ : am_I} {ρ : am_R} {g : am_J} {τ : am_T} {Q : am_Q} {x0 x1 x2 x3 : Value} {v w : Int64} : AW d 279 799 [x0, x1, x2, x3] (.long w :: .long v :: st) σ ρ g τ Q = AW d 279 800 [x0, x1, x2, x3] (.long (v ||| w) :: st) σ ρ g τ Q := aw_lc m279 d279_799 rfl rfl rfl
theorem d279_800 : decode cL_law 800 = .ok (.aload_n 0, 1) := by decide +kernel
theorem s279_800 {d : Nat} {st : List Value} {σ : am_I} {ρ : am_R} {g : am_J} {τ : am_T} {Q : am_Q} {x1 x2 x3 : Value} {v : Nat} : AW d 279 800 [.ref v, x1, x2, x3] (st) σ ρ g τ Q = AW d 279 801 [.ref v, x1, x2, x3] (.ref v :: st) σ ρ g τ Q := aw_lc m279 d279_800 rfl rfl rfl
theorem d279_801 : decode cL_law 801 = .ok (.iload_n 3, 1) := by decide +kernel
theorem s279_801 {d : Nat} {st : List Value} {σ : am_I} {ρ : am_R} {g : am_J} {τ : am_T} {Q : am_Q} {x0 x1 x2 : Value} {v : Int32} : AW d 279 801 [x0, x1, x2, .int v] (st) σ ρ g τ Q = AW d 279 802 [x0, x1, x2, .int v] (.int v :: st) σ ρ g τ Q := aw_lc m279 d279_801 rfl rfl rfl
theorem d279_802 : decode cL_law 802 = .ok (.iconst 3, 1) := by decide +kernel
theorem s279_802 {d : Nat} {st : List Value} {σ : am_I} {ρ : am_R} {g : am_J} {τ : am_T} {Q : am_Q} {x0 x1 x2 x3 : Value} : AW d 279 802 [x0, x1, x2, x3] (st) σ ρ g τ Q = AW d 279 803 [x0, x1, x2, x3] (.int 3 :: st) σ ρ g τ Q := aw_lc m279 d279_802 rfl rfl rfl
theorem d279_803 : decode cL_law 803 = .ok (.iadd, 1) := by decide +kernel
theorem s279_803 {d : Nat} {st : List Value} {σ : am_I} {ρ : am_R} {g : am_J} {τ : am_T} {Q : am_Q} {x0 x1 x2 x3 : Value} {v w : Int32} : AW d 279 803 [x0, x1, x2, x3] (.int w :: .int v :: st) σ ρ g τ Q = AW d 279 804 [x0, x1, x2, x3] (.int (v + w) :: st) σ ρ g τ Q := aw_lc m279 d279_803 rfl rfl rfl
theorem d279_804 : decode cL_law 804 = .ok (.iaload, 1) := by decide +kernel
theorem s279_804 {d : Nat} {st : List Value} {σ : am_I} {ρ : am_R} {g : am_J} {τ : am_T} {Q : am_Q} {x0 x1 x2 x3 : Value} {a : Nat} {j : Int32} (ht : τ.1 a = 15) (hj : am_inb j (τ.2.1 a) = true) : AW d 279 804 [x0, x1, x2, x3] (.int j :: .ref a :: st) σ ρ g τ Q = AW d 279 805 [x0, x1, x2, x3] (.int (σ a j.toNatClampNeg) :: st) σ ρ g τ Q := aw_ial m279 d279_804 rfl ht hj
theorem d279_805 : decode cL_law 805 = .ok (.invokevirtual 79, 3) := by decide +kernel
theorem s279_805 {d : Nat} {st : List Value} {σ : am_I} {ρ : am_R} {g : am_J} {τ : am_T} {Q : am_Q} {x0 x1 x2 x3 : Value} {p0 : Nat} {p1 : Int64} {p2 : Int32} (ht : τ.1 p0 = 12) (hs : st.length ≤ 4) : AW (d + 1) 279 805 [x0, x1, x2, x3] (.int p2 :: .long p1 :: .ref p0 :: st) σ ρ g τ Q = AW d 200 0 [.ref p0, .long p1, am_jk, .int p2, am_jk] [] σ ρ g τ (fun r9 σ ρ g τ => AW (d + 1) 279 808 [x0, x1, x2, x3] (r9.toList ++ st) σ ρ g τ Q) := aw_cv m279 d279_805 rfl m200 rfl rfl (by decide) en200 ok200 rfl ht hs
theorem d279_808 : decode cL_law 808 = .ok (.if_icmp .eq 1005, 3) := by decide +kernel
theorem s279_808 {d : Nat} {st : List Value} {σ : am_I} {ρ : am_R} {g : am_J} {τ : am_T} {Q : am_Q} {x0 x1 x2 x3 : Value} {v w : Int32} : AW d 279 808 [x0, x1, x2, x3] (.int w :: .int v :: st) σ ρ g τ Q = if v = w then AW d 279 1813 [x0, x1, x2, x3] (st) σ ρ g τ Q else AW d 279 811 [x0, x1, x2, x3] (st) σ ρ g τ Q := aw_br m279 d279_808 rfl rfl rfl
theorem d279_811 : decode cL_law 811 = .ok (.iconst 0, 1) := by decide +kernel
theorem s279_811 {d : Nat} {st : List Value} {σ : am_I} {ρ : am_R} {g : am_J} {τ : am_T} {Q : am_Q} {x0 x1 x2 x3 : Value} : AW d 279 811 [x0, x1, x2, x3] (st) σ ρ g τ Q = AW d 279 812 [x0, x1, x2, x3] (.int 0 :: st) σ ρ g τ Q := aw_lc m279 d279_811 rfl rfl rfl
theorem d279_812 : decode cL_law 812 = .ok (.ireturn, 1) := by decide +kernel
theorem s279_812 {d : Nat} {σ : am_I} {ρ : am_R} {g : am_J} {τ : am_T} {Q : am_Q} {x0 x1 x2 x3 : Value} {v : Int32} (hv : am_b01 v = true) : AW d 279 812 [x0, x1, x2, x3] ([.int v]) σ ρ g τ Q = Q (some (.int v)) σ ρ g τ := aw_rz m279 d279_812 rfl hv
theorem d279_813 : decode cL_law 813 = .ok (.aload_n 1, 1) := by decide +kernel
theorem s279_813 {d : Nat} {st : List Value} {σ : am_I} {ρ : am_R} {g : am_J} {τ : am_T} {Q : am_Q} {x0 x2 x3 : Value} {v : Nat} : AW d 279 813 [x0, .ref v, x2, x3] (st) σ ρ g τ Q = AW d 279 814 [x0, .ref v, x2, x3] (.ref v :: st) σ ρ g τ Q := aw_lc m279 d279_813 rfl rfl rfl
theorem d279_814 : decode cL_law 814 = .ok (.invokevirtual 80, 3) := by decide +kernel
theorem s279_814 {d : Nat} {st : List Value} {σ : am_I} {ρ : am_R} {g : am_J} {τ : am_T} {Q : am_Q} {x0 x1 x2 x3 : Value} {p0 : Nat} (ht : τ.1 p0 = 11) (hs : st.length ≤ 4) : AW (d + 1) 279 814 [x0, x1, x2, x3] (.ref p0 :: st) σ ρ g τ Q = AW d 127 0 [.ref p0, am_jk] [] σ ρ g τ (fun r9 σ ρ g τ => AW (d + 1) 279 817 [x0, x1, x2, x3] (r9.toList ++ st) σ ρ g τ Q) := aw_cv m279 d279_814 rfl m127 rfl rfl (by decide) en127 ok127 rfl ht hs
theorem d279_817 : decode cL_law 817 = .ok (.aload_n 2, 1) := by decide +kernel
theorem s279_817 {d : Nat} {st : List Value} {σ : am_I} {ρ : am_R} {g : am_J} {τ : am_T} {Q : am_Q} {x0 x1 x3 : Value} {v : Nat} : AW d 279 817 [x0, x1, .ref v, x3] (st) σ ρ g τ Q = AW d 279 818 [x0, x1, .ref v, x3] (.ref v :: st) σ ρ g τ Q := aw_lc m279 d279_817 rfl rfl rfl
theorem d279_818 : decode cL_law 818 = .ok (.invokevirtual 84, 3) := by decide +kernel
theorem s279_818 {d : Nat} {st : List Value} {σ : am_I} {ρ : am_R} {g : am_J} {τ : am_T} {Q : am_Q} {x0 x1 x2 x3 : Value} {p0 : Nat} (ht : τ.1 p0 = 12) (hs : st.length ≤ 4) : AW (d + 1) 279 818 [x0, x1, x2, x3] (.ref p0 :: st) σ ρ g τ Q = AW d 201 0 [.ref p0, am_jk] [] σ ρ g τ (fun r9 σ ρ g τ => AW (d + 1) 279 821 [x0, x1, x2, x3] (r9.toList ++ st) σ ρ g τ Q) := aw_cv m279 d279_818 rfl m201 rfl rfl (by decide) en201 ok201 rfl ht hs
theorem d279_821 : decode cL_law 821 = .ok (.if_icmp .eq 992, 3) := by decide +kernel
theorem s279_821 {d : Nat} {st : List Value} {σ : am_I} {ρ : am_R} {g : am_J} {τ : am_T} {Q : am_Q} {x0 x1 x2 x3 : Value} {v w : Int32} : AW d 279 821 [x0, x1, x2, x3] (.int w :: .int v :: st) σ ρ g τ Q = if v = w then AW d 279 1813 [x0, x1, x2, x3] (st) σ ρ g τ Q else AW d 279 824 [x0, x1, x2, x3] (st) σ ρ g τ Q := aw_br m279 d279_821 rfl rfl rfl
theorem d279_824 : decode cL_law 824 = .ok (.iconst 0, 1) := by decide +kernel
theorem s279_824 {d : Nat} {st : List Value} {σ : am_I} {ρ : am_R} {g : am_J} {τ : am_T} {Q : am_Q} {x0 x1 x2 x3 : Value} : AW d 279 824 [x0, x1, x2, x3] (st) σ ρ g τ Q = AW d 279 825 [x0, x1, x2, x3] (.int 0 :: st) σ ρ g τ Q := aw_lc m279 d279_824 rfl rfl rfl
theorem d279_825 : decode cL_law 825 = .ok (.ireturn, 1) := by decide +kernel
theorem s279_825 {d : Nat} {σ : am_I} {ρ : am_R} {g : am_J} {τ : am_T} {Q : am_Q} {x0 x1 x2 x3 : Value} {v : Int32} (hv : am_b01 v = true) : AW d 279 825 [x0, x1, x2, x3] ([.int v]) σ ρ g τ Q = Q (some (.int v)) σ ρ g τ := aw_rz m279 d279_825 rfl hv
theorem d279_826 : decode cL_law 826 = .ok (.aload_n 1, 1) := by decide +kernel
theorem s279_826 {d : Nat} {st : List Value} {σ : am_I} {ρ : am_R} {g : am_J} {τ : am_T} {Q : am_Q} {x0 x2 x3 : Value} {v : Nat} : AW d 279 826 [x0, .ref v, x2, x3] (st) σ ρ g τ Q = AW d 279 827 [x0, .ref v, x2, x3] (.ref v :: st) σ ρ g τ Q := aw_lc m279 d279_826 rfl rfl rfl
theorem d279_827 : decode cL_law 827 = .ok (.aload_n 0, 1) := by decide +kernel
theorem s279_827 {d : Nat} {st : List Value} {σ : am_I} {ρ : am_R} {g : am_J} {τ : am_T} {Q : am_Q} {x1 x2 x3 : Value} {v : Nat} : AW d 279 827 [.ref v, x1, x2, x3] (st) σ ρ g τ Q = AW d 279 828 [.ref v, x1, x2, x3] (.ref v :: st) σ ρ g τ Q := aw_lc m279 d279_827 rfl rfl rfl
theorem d279_828 : decode cL_law 828 = .ok (.iload_n 3, 1) := by decide +kernel
theorem s279_828 {d : Nat} {st : List Value} {σ : am_I} {ρ : am_R} {g : am_J} {τ : am_T} {Q : am_Q} {x0 x1 x2 : Value} {v : Int32} : AW d 279 828 [x0, x1, x2, .int v] (st) σ ρ g τ Q = AW d 279 829 [x0, x1, x2, .int v] (.int v :: st) σ ρ g τ Q := aw_lc m279 d279_828 rfl rfl rfl
theorem d279_829 : decode cL_law 829 = .ok (.iconst 1, 1) := by decide +kernel
theorem s279_829 {d : Nat} {st : List Value} {σ : am_I} {ρ : am_R} {g : am_J} {τ : am_T} {Q : am_Q} {x0 x1 x2 x3 : Value} : AW d 279 829 [x0, x1, x2, x3] (st) σ ρ g τ Q = AW d 279 830 [x0, x1, x2, x3] (.int 1 :: st) σ ρ g τ Q := aw_lc m279 d279_829 rfl rfl rfl
theorem d279_830 : decode cL_law 830 = .ok (.iadd, 1) := by decide +kernel
theorem s279_830 {d : Nat} {st : List Value} {σ : am_I} {ρ : am_R} {g : am_J} {τ : am_T} {Q : am_Q} {x0 x1 x2 x3 : Value} {v w : Int32} : AW d 279 830 [x0, x1, x2, x3] (.int w :: .int v :: st) σ ρ g τ Q = AW d 279 831 [x0, x1, x2, x3] (.int (v + w) :: st) σ ρ g τ Q := aw_lc m279 d279_830 rfl rfl rfl
theorem d279_831 : decode cL_law 831 = .ok (.iaload, 1) := by decide +kernel
theorem s279_831 {d : Nat} {st : List Value} {σ : am_I} {ρ : am_R} {g : am_J} {τ : am_T} {Q : am_Q} {x0 x1 x2 x3 : Value} {a : Nat} {j : Int32} (ht : τ.1 a = 15) (hj : am_inb j (τ.2.1 a) = true) : AW d 279 831 [x0, x1, x2, x3] (.int j :: .ref a :: st) σ ρ g τ Q = AW d 279 832 [x0, x1, x2, x3] (.int (σ a j.toNatClampNeg) :: st) σ ρ g τ Q := aw_ial m279 d279_831 rfl ht hj
theorem d279_832 : decode cL_law 832 = .ok (.aload_n 0, 1) := by decide +kernel
theorem s279_832 {d : Nat} {st : List Value} {σ : am_I} {ρ : am_R} {g : am_J} {τ : am_T} {Q : am_Q} {x1 x2 x3 : Value} {v : Nat} : AW d 279 832 [.ref v, x1, x2, x3] (st) σ ρ g τ Q = AW d 279 833 [.ref v, x1, x2, x3] (.ref v :: st) σ ρ g τ Q := aw_lc m279 d279_832 rfl rfl rfl
theorem d279_833 : decode cL_law 833 = .ok (.iload_n 3, 1) := by decide +kernel
theorem s279_833 {d : Nat} {st : List Value} {σ : am_I} {ρ : am_R} {g : am_J} {τ : am_T} {Q : am_Q} {x0 x1 x2 : Value} {v : Int32} : AW d 279 833 [x0, x1, x2, .int v] (st) σ ρ g τ Q = AW d 279 834 [x0, x1, x2, .int v] (.int v :: st) σ ρ g τ Q := aw_lc m279 d279_833 rfl rfl rfl
theorem d279_834 : decode cL_law 834 = .ok (.iconst 2, 1) := by decide +kernel
theorem s279_834 {d : Nat} {st : List Value} {σ : am_I} {ρ : am_R} {g : am_J} {τ : am_T} {Q : am_Q} {x0 x1 x2 x3 : Value} : AW d 279 834 [x0, x1, x2, x3] (st) σ ρ g τ Q = AW d 279 835 [x0, x1, x2, x3] (.int 2 :: st) σ ρ g τ Q := aw_lc m279 d279_834 rfl rfl rfl
theorem d279_835 : decode cL_law 835 = .ok (.iadd, 1) := by decide +kernel
theorem s279_835 {d : Nat} {st : List Value} {σ : am_I} {ρ : am_R} {g : am_J} {τ : am_T} {Q : am_Q} {x0 x1 x2 x3 : Value} {v w : Int32} : AW d 279 835 [x0, x1, x2, x3] (.int w :: .int v :: st) σ ρ g τ Q = AW d 279 836 [x0, x1, x2, x3] (.int (v + w) :: st) σ ρ g τ Q := aw_lc m279 d279_835 rfl rfl rfl
theorem d279_836 : decode cL_law 836 = .ok (.iaload, 1) := by decide +kernel
theorem s279_836 {d : Nat} {st : List Value} {σ : am_I} {ρ : am_R} {g : am_J} {τ : am_T} {Q : am_Q} {x0 x1 x2 x3 : Value} {a : Nat} {j : Int32} (ht : τ.1 a = 15) (hj : am_inb j (τ.2.1 a) = true) : AW d 279 836 [x0, x1, x2, x3] (.int j :: .ref a :: st) σ ρ g τ Q = AW d 279 837 [x0, x1, x2, x3] (.int (σ a j.toNatClampNeg) :: st) σ ρ g τ Q := aw_ial m279 d279_836 rfl ht hj
theorem d279_837 : decode cL_law 837 = .ok (.aload_n 0, 1) := by decide +kernel
theorem s279_837 {d : Nat} {st : List Value} {σ : am_I} {ρ : am_R} {g : am_J} {τ : am_T} {Q : am_Q} {x1 x2 x3 : Value} {v : Nat} : AW d 279 837 [.ref v, x1, x2, x3] (st) σ ρ g τ Q = AW d 279 838 [.ref v, x1, x2, x3] (.ref v :: st) σ ρ g τ Q := aw_lc m279 d279_837 rfl rfl rfl
theorem d279_838 : decode cL_law 838 = .ok (.iload_n 3, 1) := by decide +kernel
theorem s279_838 {d : Nat} {st : List Value} {σ : am_I} {ρ : am_R} {g : am_J} {τ : am_T} {Q : am_Q} {x0 x1 x2 : Value} {v : Int32} : AW d 279 838 [x0, x1, x2, .int v] (st) σ ρ g τ Q = AW d 279 839 [x0, x1, x2, .int v] (.int v :: st) σ ρ g τ Q := aw_lc m279 d279_838 rfl rfl rfl
theorem d279_839 : decode cL_law 839 = .ok (.iconst 3, 1) := by decide +kernel
theorem s279_839 {d : Nat} {st : List Value} {σ : am_I} {ρ : am_R} {g : am_J} {τ : am_T} {Q : am_Q} {x0 x1 x2 x3 : Value} : AW d 279 839 [x0, x1, x2, x3] (st) σ ρ g τ Q = AW d 279 840 [x0, x1, x2, x3] (.int 3 :: st) σ ρ g τ Q := aw_lc m279 d279_839 rfl rfl rfl
theorem d279_840 : decode cL_law 840 = .ok (.iadd, 1) := by decide +kernel
theorem s279_840 {d : Nat} {st : List Value} {σ : am_I} {ρ : am_R} {g : am_J} {τ : am_T} {Q : am_Q} {x0 x1 x2 x3 : Value} {v w : Int32} : AW d 279 840 [x0, x1, x2, x3] (.int w :: .int v :: st) σ ρ g τ Q = AW d 279 841 [x0, x1, x2, x3] (.int (v + w) :: st) σ ρ g τ Q := aw_lc m279 d279_840 rfl rfl rfl
theorem d279_841 : decode cL_law 841 = .ok (.iaload, 1) := by decide +kernel
theorem s279_841 {d : Nat} {st : List Value} {σ : am_I} {ρ : am_R} {g : am_J} {τ : am_T} {Q : am_Q} {x0 x1 x2 x3 : Value} {a : Nat} {j : Int32} (ht : τ.1 a = 15) (hj : am_inb j (τ.2.1 a) = true) : AW d 279 841 [x0, x1, x2, x3] (.int j :: .ref a :: st) σ ρ g τ Q = AW d 279 842 [x0, x1, x2, x3] (.int (σ a j.toNatClampNeg) :: st) σ ρ g τ Q := aw_ial m279 d279_841 rfl ht hj
theorem d279_842 : decode cL_law 842 = .ok (.invokevirtual 85, 3) := by decide +kernel
theorem s279_842 {d : Nat} {st : List Value} {σ : am_I} {ρ : am_R} {g : am_J} {τ : am_T} {Q : am_Q} {x0 x1 x2 x3 : Value} {p0 : Nat} {p1 : Int32} {p2 : Int32} {p3 : Int32} (ht : τ.1 p0 = 11) (hs : st.length ≤ 4) : AW (d + 1) 279 842 [x0, x1, x2, x3] (.int p3 :: .int p2 :: .int p1 :: .ref p0 :: st) σ ρ g τ Q = AW d 128 0 [.ref p0, .int p1, .int p2, .int p3, am_jk] [] σ ρ g τ (fun r9 σ ρ g τ => AW (d + 1) 279 845 [x0, x1, x2, x3] (r9.toList ++ st) σ ρ g τ Q) := aw_cv m279 d279_842 rfl m128 rfl rfl (by decide) en128 ok128 rfl ht hs
theorem d279_845 : decode cL_law 845 = .ok (.aload_n 2, 1) := by decide +kernel
theorem s279_845 {d : Nat} {st : List Value} {σ : am_I} {ρ : am_R} {g : am_J} {τ : am_T} {Q : am_Q} {x0 x1 x3 : Value} {v : Nat} : AW d 279 845 [x0, x1, .ref v, x3] (st) σ ρ g τ Q = AW d 279 846 [x0, x1, .ref v, x3] (.ref v :: st) σ ρ g τ Q := aw_lc m279 d279_845 rfl rfl rfl
theorem d279_846 : decode cL_law 846 = .ok (.aload_n 0, 1) := by decide +kernel
theorem s279_846 {d : Nat} {st : List Value} {σ : am_I} {ρ : am_R} {g : am_J} {τ : am_T} {Q : am_Q} {x1 x2 x3 : Value} {v : Nat} : AW d 279 846 [.ref v, x1, x2, x3] (st) σ ρ g τ Q = AW d 279 847 [.ref v, x1, x2, x3] (.ref v :: st) σ ρ g τ Q := aw_lc m279 d279_846 rfl rfl rfl
theorem d279_847 : decode cL_law 847 = .ok (.iload_n 3, 1) := by decide +kernel
theorem s279_847 {d : Nat} {st : List Value} {σ : am_I} {ρ : am_R} {g : am_J} {τ : am_T} {Q : am_Q} {x0 x1 x2 : Value} {v : Int32} : AW d 279 847 [x0, x1, x2, .int v] (st) σ ρ g τ Q = AW d 279 848 [x0, x1, x2, .int v] (.int v :: st) σ ρ g τ Q := aw_lc m279 d279_847 rfl rfl rfl
theorem d279_848 : decode cL_law 848 = .ok (.iconst 1, 1) := by decide +kernel
theorem s279_848 {d : Nat} {st : List Value} {σ : am_I} {ρ : am_R} {g : am_J} {τ : am_T} {Q : am_Q} {x0 x1 x2 x3 : Value} : AW d 279 848 [x0, x1, x2, x3] (st) σ ρ g τ Q = AW d 279 849 [x0, x1, x2, x3] (.int 1 :: st) σ ρ g τ Q := aw_lc m279 d279_848 rfl rfl rfl
theorem d279_849 : decode cL_law 849 = .ok (.iadd, 1) := by decide +kernel
theorem s279_849 {d : Nat} {st : List Value} {σ : am_I} {ρ : am_R} {g : am_J} {τ : am_T} {Q : am_Q} {x0 x1 x2 x3 : Value} {v w : Int32} : AW d 279 849 [x0, x1, x2, x3] (.int w :: .int v :: st) σ ρ g τ Q = AW d 279 850 [x0, x1, x2, x3] (.int (v + w) :: st) σ ρ g τ Q := aw_lc m279 d279_849 rfl rfl rfl
theorem d279_850 : decode cL_law 850 = .ok (.iaload, 1) := by decide +kernel
theorem s279_850 {d : Nat} {st : List Value} {σ : am_I} {ρ : am_R} {g : am_J} {τ : am_T} {Q : am_Q} {x0 x1 x2 x3 : Value} {a : Nat} {j : Int32} (ht : τ.1 a = 15) (hj : am_inb j (τ.2.1 a) = true) : AW d 279 850 [x0, x1, x2, x3] (.int j :: .ref a :: st) σ ρ g τ Q = AW d 279 851 [x0, x1, x2, x3] (.int (σ a j.toNatClampNeg) :: st) σ ρ g τ Q := aw_ial m279 d279_850 rfl ht hj
theorem d279_851 : decode cL_law 851 = .ok (.aload_n 0, 1) := by decide +kernel
theorem s279_851 {d : Nat} {st : List Value} {σ : am_I} {ρ : am_R} {g : am_J} {τ : am_T} {Q : am_Q} {x1 x2 x3 : Value} {v : Nat} : AW d 279 851 [.ref v, x1, x2, x3] (st) σ ρ g τ Q = AW d 279 852 [.ref v, x1, x2, x3] (.ref v :: st) σ ρ g τ Q := aw_lc m279 d279_851 rfl rfl rfl
theorem d279_852 : decode cL_law 852 = .ok (.iload_n 3, 1) := by decide +kernel
theorem s279_852 {d : Nat} {st : List Value} {σ : am_I} {ρ : am_R} {g : am_J} {τ : am_T} {Q : am_Q} {x0 x1 x2 : Value} {v : Int32} : AW d 279 852 [x0, x1, x2, .int v] (st) σ ρ g τ Q = AW d 279 853 [x0, x1, x2, .int v] (.int v :: st) σ ρ g τ Q := aw_lc m279 d279_852 rfl rfl rfl
theorem d279_853 : decode cL_law 853 = .ok (.iconst 2, 1) := by decide +kernel
theorem s279_853 {d : Nat} {st : List Value} {σ : am_I} {ρ : am_R} {g : am_J} {τ : am_T} {Q : am_Q} {x0 x1 x2 x3 : Value} : AW d 279 853 [x0, x1, x2, x3] (st) σ ρ g τ Q = AW d 279 854 [x0, x1, x2, x3] (.int 2 :: st) σ ρ g τ Q := aw_lc m279 d279_853 rfl rfl rfl
theorem d279_854 : decode cL_law 854 = .ok (.iadd, 1) := by decide +kernel
theorem s279_854 {d : Nat} {st : List Value} {σ : am_I} {ρ : am_R} {g : am_J} {τ : am_T} {Q : am_Q} {x0 x1 x2 x3 : Value} {v w : Int32} : AW d 279 854 [x0, x1, x2, x3] (.int w :: .int v :: st) σ ρ g τ Q = AW d 279 855 [x0, x1, x2, x3] (.int (v + w) :: st) σ ρ g τ Q := aw_lc m279 d279_854 rfl rfl rfl
theorem d279_855 : decode cL_law 855 = .ok (.iaload, 1) := by decide +kernel
theorem s279_855 {d : Nat} {st : List Value} {σ : am_I} {ρ : am_R} {g : am_J} {τ : am_T} {Q : am_Q} {x0 x1 x2 x3 : Value} {a : Nat} {j : Int32} (ht : τ.1 a = 15) (hj : am_inb j (τ.2.1 a) = true) : AW d 279 855 [x0, x1, x2, x3] (.int j :: .ref a :: st) σ ρ g τ Q = AW d 279 856 [x0, x1, x2, x3] (.int (σ a j.toNatClampNeg) :: st) σ ρ g τ Q := aw_ial m279 d279_855 rfl ht hj
theorem d279_856 : decode cL_law 856 = .ok (.aload_n 0, 1) := by decide +kernel
theorem s279_856 {d : Nat} {st : List Value} {σ : am_I} {ρ : am_R} {g : am_J} {τ : am_T} {Q : am_Q} {x1 x2 x3 : Value} {v : Nat} : AW d 279 856 [.ref v, x1, x2, x3] (st) σ ρ g τ Q = AW d 279 857 [.ref v, x1, x2, x3] (.ref v :: st) σ ρ g τ Q := aw_lc m279 d279_856 rfl rfl rfl
theorem d279_857 : decode cL_law 857 = .ok (.iload_n 3, 1) := by decide +kernel
theorem s279_857 {d : Nat} {st : List Value} {σ : am_I} {ρ : am_R} {g : am_J} {τ : am_T} {Q : am_Q} {x0 x1 x2 : Value} {v : Int32} : AW d 279 857 [x0, x1, x2, .int v] (st) σ ρ g τ Q = AW d 279 858 [x0, x1, x2, .int v] (.int v :: st) σ ρ g τ Q := aw_lc m279 d279_857 rfl rfl rfl
theorem d279_858 : decode cL_law 858 = .ok (.iconst 3, 1) := by decide +kernel
theorem s279_858 {d : Nat} {st : List Value} {σ : am_I} {ρ : am_R} {g : am_J} {τ : am_T} {Q : am_Q} {x0 x1 x2 x3 : Value} : AW d 279 858 [x0, x1, x2, x3] (st) σ ρ g τ Q = AW d 279 859 [x0, x1, x2, x3] (.int 3 :: st) σ ρ g τ Q := aw_lc m279 d279_858 rfl rfl rfl
theorem d279_859 : decode cL_law 859 = .ok (.iadd, 1) := by decide +kernel
theorem s279_859 {d : Nat} {st : List Value} {σ : am_I} {ρ : am_R} {g : am_J} {τ : am_T} {Q : am_Q} {x0 x1 x2 x3 : Value} {v w : Int32} : AW d 279 859 [x0, x1, x2, x3] (.int w :: .int v :: st) σ ρ g τ Q = AW d 279 860 [x0, x1, x2, x3] (.int (v + w) :: st) σ ρ g τ Q := aw_lc m279 d279_859 rfl rfl rfl
theorem d279_860 : decode cL_law 860 = .ok (.iaload, 1) := by decide +kernel
theorem s279_860 {d : Nat} {st : List Value} {σ : am_I} {ρ : am_R} {g : am_J} {τ : am_T} {Q : am_Q} {x0 x1 x2 x3 : Value} {a : Nat} {j : Int32} (ht : τ.1 a = 15) (hj : am_inb j (τ.2.1 a) = true) : AW d 279 860 [x0, x1, x2, x3] (.int j :: .ref a :: st) σ ρ g τ Q = AW d 279 861 [x0, x1, x2, x3] (.int (σ a j.toNatClampNeg) :: st) σ ρ g τ Q := aw_ial m279 d279_860 rfl ht hj
theorem d279_861 : decode cL_law 861 = .ok (.invokevirtual 88, 3) := by decide +kernel
theorem s279_861 {d : Nat} {st : List Value} {σ : am_I} {ρ : am_R} {g : am_J} {τ : am_T} {Q : am_Q} {x0 x1 x2 x3 : Value} {p0 : Nat} {p1 : Int32} {p2 : Int32} {p3 : Int32} (ht : τ.1 p0 = 12) (hs : st.length ≤ 4) : AW (d + 1) 279 861 [x0, x1, x2, x3] (.int p3 :: .int p2 :: .int p1 :: .ref p0 :: st) σ ρ g τ Q = AW d 202 0 [.ref p0, .int p1, .int p2, .int p3, am_jk] [] σ ρ g τ (fun r9 σ ρ g τ => AW (d + 1) 279 864 [x0, x1, x2, x3] (r9.toList ++ st) σ ρ g τ Q) := aw_cv m279 d279_861 rfl m202 rfl rfl (by decide) en202 ok202 rfl ht hs
theorem d279_864 : decode cL_law 864 = .ok (.if_icmp .eq 949, 3) := by decide +kernel
theorem s279_864 {d : Nat} {st : List Value} {σ : am_I} {ρ : am_R} {g : am_J} {τ : am_T} {Q : am_Q} {x0 x1 x2 x3 : Value} {v w : Int32} : AW d 279 864 [x0, x1, x2, x3] (.int w :: .int v :: st) σ ρ g τ Q = if v = w then AW d 279 1813 [x0, x1, x2, x3] (st) σ ρ g τ Q else AW d 279 867 [x0, x1, x2, x3] (st) σ ρ g τ Q := aw_br m279 d279_864 rfl rfl rfl
theorem d279_867 : decode cL_law 867 = .ok (.iconst 0, 1) := by decide +kernel
theorem s279_867 {d : Nat} {st : List Value} {σ : am_I} {ρ : am_R} {g : am_J} {τ : am_T} {Q : am_Q} {x0 x1 x2 x3 : Value} : AW d 279 867 [x0, x1, x2, x3] (st) σ ρ g τ Q = AW d 279 868 [x0, x1, x2, x3] (.int 0 :: st) σ ρ g τ Q := aw_lc m279 d279_867 rfl rfl rfl
theorem d279_868 : decode cL_law 868 = .ok (.ireturn, 1) := by decide +kernel
theorem s279_868 {d : Nat} {σ : am_I} {ρ : am_R} {g : am_J} {τ : am_T} {Q : am_Q} {x0 x1 x2 x3 : Value} {v : Int32} (hv : am_b01 v = true) : AW d 279 868 [x0, x1, x2, x3] ([.int v]) σ ρ g τ Q = Q (some (.int v)) σ ρ g τ := aw_rz m279 d279_868 rfl hv
theorem d279_869 : decode cL_law 869 = .ok (.aload_n 1, 1) := by decide +kernel
theorem s279_869 {d : Nat} {st : List Value} {σ : am_I} {ρ : am_R} {g : am_J} {τ : am_T} {Q : am_Q} {x0 x2 x3 : Value} {v : Nat} : AW d 279 869 [x0, .ref v, x2, x3] (st) σ ρ g τ Q = AW d 279 870 [x0, .ref v, x2, x3] (.ref v :: st) σ ρ g τ Q := aw_lc m279 d279_869 rfl rfl rfl
theorem d279_870 : decode cL_law 870 = .ok (.aload_n 0, 1) := by decide +kernel
theorem s279_870 {d : Nat} {st : List Value} {σ : am_I} {ρ : am_R} {g : am_J} {τ : am_T} {Q : am_Q} {x1 x2 x3 : Value} {v : Nat} : AW d 279 870 [.ref v, x1, x2, x3] (st) σ ρ g τ Q = AW d 279 871 [.ref v, x1, x2, x3] (.ref v :: st) σ ρ g τ Q := aw_lc m279 d279_870 rfl rfl rfl
theorem d279_871 : decode cL_law 871 = .ok (.iload_n 3, 1) := by decide +kernel
theorem s279_871 {d : Nat} {st : List Value} {σ : am_I} {ρ : am_R} {g : am_J} {τ : am_T} {Q : am_Q} {x0 x1 x2 : Value} {v : Int32} : AW d 279 871 [x0, x1, x2, .int v] (st) σ ρ g τ Q = AW d 279 872 [x0, x1, x2, .int v] (.int v :: st) σ ρ g τ Q := aw_lc m279 d279_871 rfl rfl rfl
theorem d279_872 : decode cL_law 872 = .ok (.iconst 1, 1) := by decide +kernel
theorem s279_872 {d : Nat} {st : List Value} {σ : am_I} {ρ : am_R} {g : am_J} {τ : am_T} {Q : am_Q} {x0 x1 x2 x3 : Value} : AW d 279 872 [x0, x1, x2, x3] (st) σ ρ g τ Q = AW d 279 873 [x0, x1, x2, x3] (.int 1 :: st) σ ρ g τ Q := aw_lc m279 d279_872 rfl rfl rfl
theorem d279_873 : decode cL_law 873 = .ok (.iadd, 1) := by decide +kernel
theorem s279_873 {d : Nat} {st : List Value} {σ : am_I} {ρ : am_R} {g : am_J} {τ : am_T} {Q : am_Q} {x0 x1 x2 x3 : Value} {v w : Int32} : AW d 279 873 [x0, x1, x2, x3] (.int w :: .int v :: st) σ ρ g τ Q = AW d 279 874 [x0, x1, x2, x3] (.int (v + w) :: st) σ ρ g τ Q := aw_lc m279 d279_873 rfl rfl rfl
theorem d279_874 : decode cL_law 874 = .ok (.iaload, 1) := by decide +kernel
theorem s279_874 {d : Nat} {st : List Value} {σ : am_I} {ρ : am_R} {g : am_J} {τ : am_T} {Q : am_Q} {x0 x1 x2 x3 : Value} {a : Nat} {j : Int32} (ht : τ.1 a = 15) (hj : am_inb j (τ.2.1 a) = true) : AW d 279 874 [x0, x1, x2, x3] (.int j :: .ref a :: st) σ ρ g τ Q = AW d 279 875 [x0, x1, x2, x3] (.int (σ a j.toNatClampNeg) :: st) σ ρ g τ Q := aw_ial m279 d279_874 rfl ht hj
theorem d279_875 : decode cL_law 875 = .ok (.aload_n 0, 1) := by decide +kernel
theorem s279_875 {d : Nat} {st : List Value} {σ : am_I} {ρ : am_R} {g : am_J} {τ : am_T} {Q : am_Q} {x1 x2 x3 : Value} {v : Nat} : AW d 279 875 [.ref v, x1, x2, x3] (st) σ ρ g τ Q = AW d 279 876 [.ref v, x1, x2, x3] (.ref v :: st) σ ρ g τ Q := aw_lc m279 d279_875 rfl rfl rfl
theorem d279_876 : decode cL_law 876 = .ok (.iload_n 3, 1) := by decide +kernel
theorem s279_876 {d : Nat} {st : List Value} {σ : am_I} {ρ : am_R} {g : am_J} {τ : am_T} {Q : am_Q} {x0 x1 x2 : Value} {v : Int32} : AW d 279 876 [x0, x1, x2, .int v] (st) σ ρ g τ Q = AW d 279 877 [x0, x1, x2, .int v] (.int v :: st) σ ρ g τ Q := aw_lc m279 d279_876 rfl rfl rfl
theorem d279_877 : decode cL_law 877 = .ok (.iconst 2, 1) := by decide +kernel
theorem s279_877 {d : Nat} {st : List Value} {σ : am_I} {ρ : am_R} {g : am_J} {τ : am_T} {Q : am_Q} {x0 x1 x2 x3 : Value} : AW d 279 877 [x0, x1, x2, x3] (st) σ ρ g τ Q = AW d 279 878 [x0, x1, x2, x3] (.int 2 :: st) σ ρ g τ Q := aw_lc m279 d279_877 rfl rfl rfl
theorem d279_878 : decode cL_law 878 = .ok (.iadd, 1) := by decide +kernel
theorem s279_878 {d : Nat} {st : List Value} {σ : am_I} {ρ : am_R} {g : am_J} {τ : am_T} {Q : am_Q} {x0 x1 x2 x3 : Value} {v w : Int32} : AW d 279 878 [x0, x1, x2, x3] (.int w :: .int v :: st) σ ρ g τ Q = AW d 279 879 [x0, x1, x2, x3] (.int (v + w) :: st) σ ρ g τ Q := aw_lc m279 d279_878 rfl rfl rfl
theorem d279_879 : decode cL_law 879 = .ok (.iaload, 1) := by decide +kernel
theorem s279_879 {d : Nat} {st : List Value} {σ : am_I} {ρ : am_R} {g : am_J} {τ : am_T} {Q : am_Q} {x0 x1 x2 x3 : Value} {a : Nat} {j : Int32} (ht : τ.1 a = 15) (hj : am_inb j (τ.2.1 a) = true) : AW d 279 879 [x0, x1, x2, x3] (.int j :: .ref a :: st) σ ρ g τ Q = AW d 279 880 [x0, x1, x2, x3] (.int (σ a j.toNatClampNeg) :: st) σ ρ g τ Q := aw_ial m279 d279_879 rfl ht hj
theorem d279_880 : decode cL_law 880 = .ok (.aload_n 0, 1) := by decide +kernel
theorem s279_880 {d : Nat} {st : List Value} {σ : am_I} {ρ : am_R} {g : am_J} {τ : am_T} {Q : am_Q} {x1 x2 x3 : Value} {v : Nat} : AW d 279 880 [.ref v, x1, x2, x3] (st) σ ρ g τ Q = AW d 279 881 [.ref v, x1, x2, x3] (.ref v :: st) σ ρ g τ Q := aw_lc m279 d279_880 rfl rfl rfl
theorem d279_881 : decode cL_law 881 = .ok (.iload_n 3, 1) := by decide +kernel
theorem s279_881 {d : Nat} {st : List Value} {σ : am_I} {ρ : am_R} {g : am_J} {τ : am_T} {Q : am_Q} {x0 x1 x2 : Value} {v : Int32} : AW d 279 881 [x0, x1, x2, .int v] (st) σ ρ g τ Q = AW d 279 882 [x0, x1, x2, .int v] (.int v :: st) σ ρ g τ Q := aw_lc m279 d279_881 rfl rfl rfl
theorem d279_882 : decode cL_law 882 = .ok (.iconst 3, 1) := by decide +kernel
theorem s279_882 {d : Nat} {st : List Value} {σ : am_I} {ρ : am_R} {g : am_J} {τ : am_T} {Q : am_Q} {x0 x1 x2 x3 : Value} : AW d 279 882 [x0, x1, x2, x3] (st) σ ρ g τ Q = AW d 279 883 [x0, x1, x2, x3] (.int 3 :: st) σ ρ g τ Q := aw_lc m279 d279_882 rfl rfl rfl
theorem d279_883 : decode cL_law 883 = .ok (.iadd, 1) := by decide +kernel
theorem s279_883 {d : Nat} {st : List Value} {σ : am_I} {ρ : am_R} {g : am_J} {τ : am_T} {Q : am_Q} {x0 x1 x2 x3 : Value} {v w : Int32} : AW d 279 883 [x0, x1, x2, x3] (.int w :: .int v :: st) σ ρ g τ Q = AW d 279 884 [x0, x1, x2, x3] (.int (v + w) :: st) σ ρ g τ Q := aw_lc m279 d279_883 rfl rfl rfl
theorem d279_884 : decode cL_law 884 = .ok (.iaload, 1) := by decide +kernel
theorem s279_884 {d : Nat} {st : List Value} {σ : am_I} {ρ : am_R} {g : am_J} {τ : am_T} {Q : am_Q} {x0 x1 x2 x3 : Value} {a : Nat} {j : Int32} (ht : τ.1 a = 15) (hj : am_inb j (τ.2.1 a) = true) : AW d 279 884 [x0, x1, x2, x3] (.int j :: .ref a :: st) σ ρ g τ Q = AW d 279 885 [x0, x1, x2, x3] (.int (σ a j.toNatClampNeg) :: st) σ ρ g τ Q := aw_ial m279 d279_884 rfl ht hj
theorem d279_885 : decode cL_law 885 = .ok (.invokevirtual 89, 3) := by decide +kernel
theorem s279_885 {d : Nat} {st : List Value} {σ : am_I} {ρ : am_R} {g : am_J} {τ : am_T} {Q : am_Q} {x0 x1 x2 x3 : Value} {p0 : Nat} {p1 : Int32} {p2 : Int32} {p3 : Int32} (ht : τ.1 p0 = 11) (hs : st.length ≤ 4) : AW (d + 1) 279 885 [x0, x1, x2, x3] (.int p3 :: .int p2 :: .int p1 :: .ref p0 :: st) σ ρ g τ Q = AW d 129 0 [.ref p0, .int p1, .int p2, .int p3, am_jk] [] σ ρ g τ (fun r9 σ ρ g τ => AW (d + 1) 279 888 [x0, x1, x2, x3] (r9.toList ++ st) σ ρ g τ Q) := aw_cv m279 d279_885 rfl m129 rfl rfl (by decide) en129 ok129 rfl ht hs
theorem d279_888 : decode cL_law 888 = .ok (.aload_n 2, 1) := by decide +kernel
theorem s279_888 {d : Nat} {st : List Value} {σ : am_I} {ρ : am_R} {g : am_J} {τ : am_T} {Q : am_Q} {x0 x1 x3 : Value} {v : Nat} : AW d 279 888 [x0, x1, .ref v, x3] (st) σ ρ g τ Q = AW d 279 889 [x0, x1, .ref v, x3] (.ref v :: st) σ ρ g τ Q := aw_lc m279 d279_888 rfl rfl rfl
theorem d279_889 : decode cL_law 889 = .ok (.aload_n 0, 1) := by decide +kernel
theorem s279_889 {d : Nat} {st : List Value} {σ : am_I} {ρ : am_R} {g : am_J} {τ : am_T} {Q : am_Q} {x1 x2 x3 : Value} {v : Nat} : AW d 279 889 [.ref v, x1, x2, x3] (st) σ ρ g τ Q = AW d 279 890 [.ref v, x1, x2, x3] (.ref v :: st) σ ρ g τ Q := aw_lc m279 d279_889 rfl rfl rfl
theorem d279_890 : decode cL_law 890 = .ok (.iload_n 3, 1) := by decide +kernel
theorem s279_890 {d : Nat} {st : List Value} {σ : am_I} {ρ : am_R} {g : am_J} {τ : am_T} {Q : am_Q} {x0 x1 x2 : Value} {v : Int32} : AW d 279 890 [x0, x1, x2, .int v] (st) σ ρ g τ Q = AW d 279 891 [x0, x1, x2, .int v] (.int v :: st) σ ρ g τ Q := aw_lc m279 d279_890 rfl rfl rfl
theorem d279_891 : decode cL_law 891 = .ok (.iconst 1, 1) := by decide +kernel
theorem s279_891 {d : Nat} {st : List Value} {σ : am_I} {ρ : am_R} {g : am_J} {τ : am_T} {Q : am_Q} {x0 x1 x2 x3 : Value} : AW d 279 891 [x0, x1, x2, x3] (st) σ ρ g τ Q = AW d 279 892 [x0, x1, x2, x3] (.int 1 :: st) σ ρ g τ Q := aw_lc m279 d279_891 rfl rfl rfl
theorem d279_892 : decode cL_law 892 = .ok (.iadd, 1) := by decide +kernel
theorem s279_892 {d : Nat} {st : List Value} {σ : am_I} {ρ : am_R} {g : am_J} {τ : am_T} {Q : am_Q} {x0 x1 x2 x3 : Value} {v w : Int32} : AW d 279 892 [x0, x1, x2, x3] (.int w :: .int v :: st) σ ρ g τ Q = AW d 279 893 [x0, x1, x2, x3] (.int (v + w) :: st) σ ρ g τ Q := aw_lc m279 d279_892 rfl rfl rfl
theorem d279_893 : decode cL_law 893 = .ok (.iaload, 1) := by decide +kernel
theorem s279_893 {d : Nat} {st : List Value} {σ : am_I} {ρ : am_R} {g : am_J} {τ : am_T} {Q : am_Q} {x0 x1 x2 x3 : Value} {a : Nat} {j : Int32} (ht : τ.1 a = 15) (hj : am_inb j (τ.2.1 a) = true) : AW d 279 893 [x0, x1, x2, x3] (.int j :: .ref a :: st) σ ρ g τ Q = AW d 279 894 [x0, x1, x2, x3] (.int (σ a j.toNatClampNeg) :: st) σ ρ g τ Q := aw_ial m279 d279_893 rfl ht hj
theorem d279_894 : decode cL_law 894 = .ok (.aload_n 0, 1) := by decide +kernel
theorem s279_894 {d : Nat} {st : List Value} {σ : am_I} {ρ : am_R} {g : am_J} {τ : am_T} {Q : am_Q} {x1 x2 x3 : Value} {v : Nat} : AW d 279 894 [.ref v, x1, x2, x3] (st) σ ρ g τ Q = AW d 279 895 [.ref v, x1, x2, x3] (.ref v :: st) σ ρ g τ Q := aw_lc m279 d279_894 rfl rfl rfl
theorem d279_895 : decode cL_law 895 = .ok (.iload_n 3, 1) := by decide +kernel
theorem s279_895 {d : Nat} {st : List Value} {σ : am_I} {ρ : am_R} {g : am_J} {τ : am_T} {Q : am_Q} {x0 x1 x2 : Value} {v : Int32} : AW d 279 895 [x0, x1, x2, .int v] (st) σ ρ g τ Q = AW d 279 896 [x0, x1, x2, .int v] (.int v :: st) σ ρ g τ Q := aw_lc m279 d279_895 rfl rfl rfl
theorem d279_896 : decode cL_law 896 = .ok (.iconst 2, 1) := by decide +kernel
theorem s279_896 {d : Nat} {st : List Value} {σ : am_I} {ρ : am_R} {g : am_J} {τ : am_T} {Q : am_Q} {x0 x1 x2 x3 : Value} : AW d 279 896 [x0, x1, x2, x3] (st) σ ρ g τ Q = AW d 279 897 [x0, x1, x2, x3] (.int 2 :: st) σ ρ g τ Q := aw_lc m279 d279_896 rfl rfl rfl
theorem d279_897 : decode cL_law 897 = .ok (.iadd, 1) := by decide +kernel
theorem s279_897 {d : Nat} {st : List Value} {σ : am_I} {ρ : am_R} {g : am_J} {τ : am_T} {Q : am_Q} {x0 x1 x2 x3 : Value} {v w : Int32} : AW d 279 897 [x0, x1, x2, x3] (.int w :: .int v :: st) σ ρ g τ Q = AW d 279 898 [x0, x1, x2, x3] (.int (v + w) :: st) σ ρ g τ Q := aw_lc m279 d279_897 rfl rfl rfl
theorem d279_898 : decode cL_law 898 = .ok (.iaload, 1) := by decide +kernel
theorem s279_898 {d : Nat} {st : List Value} {σ : am_I} {ρ : am_R} {g : am_J} {τ : am_T} {Q : am_Q} {x0 x1 x2 x3 : Value} {a : Nat} {j : Int32} (ht : τ.1 a = 15) (hj : am_inb j (τ.2.1 a) = true) : AW d 279 898 [x0, x1, x2, x3] (.int j :: .ref a :: st) σ ρ g τ Q = AW d 279 899 [x0, x1, x2, x3] (.int (σ a j.toNatClampNeg) :: st) σ ρ g τ Q := aw_ial m279 d279_898 rfl ht hj
theorem d279_899 : decode cL_law 899 = .ok (.aload_n 0, 1) := by decide +kernel
theorem s279_899 {d : Nat} {st : List Value} {σ : am_I} {ρ : am_R} {g : am_J} {τ : am_T} {Q : am_Q} {x1 x2 x3 : Value} {v : Nat} : AW d 279 899 [.ref v, x1, x2, x3] (st) σ ρ g τ Q = AW d 279 900 [.ref v, x1, x2, x3] (.ref v :: st) σ ρ g τ Q := aw_lc m279 d279_899 rfl rfl rfl
theorem d279_900 : decode cL_law 900 = .ok (.iload_n 3, 1) := by decide +kernel
theorem s279_900 {d : Nat} {st : List Value} {σ : am_I} {ρ : am_R} {g : am_J} {τ : am_T} {Q : am_Q} {x0 x1 x2 : Value} {v : Int32} : AW d 279 900 [x0, x1, x2, .int v] (st) σ ρ g τ Q = AW d 279 901 [x0, x1, x2, .int v] (.int v :: st) σ ρ g τ Q := aw_lc m279 d279_900 rfl rfl rfl
theorem d279_901 : decode cL_law 901 = .ok (.iconst 3, 1) := by decide +kernel
theorem s279_901 {d : Nat} {st : List Value} {σ : am_I} {ρ : am_R} {g : am_J} {τ : am_T} {Q : am_Q} {x0 x1 x2 x3 : Value} : AW d 279 901 [x0, x1, x2, x3] (st) σ ρ g τ Q = AW d 279 902 [x0, x1, x2, x3] (.int 3 :: st) σ ρ g τ Q := aw_lc m279 d279_901 rfl rfl rfl
theorem d279_902 : decode cL_law 902 = .ok (.iadd, 1) := by decide +kernel
theorem s279_902 {d : Nat} {st : List Value} {σ : am_I} {ρ : am_R} {g : am_J} {τ : am_T} {Q : am_Q} {x0 x1 x2 x3 : Value} {v w : Int32} : AW d 279 902 [x0, x1, x2, x3] (.int w :: .int v :: st) σ ρ g τ Q = AW d 279 903 [x0, x1, x2, x3] (.int (v + w) :: st) σ ρ g τ Q := aw_lc m279 d279_902 rfl rfl rfl
theorem d279_903 : decode cL_law 903 = .ok (.iaload, 1) := by decide +kernel
theorem s279_903 {d : Nat} {st : List Value} {σ : am_I} {ρ : am_R} {g : am_J} {τ : am_T} {Q : am_Q} {x0 x1 x2 x3 : Value} {a : Nat} {j : Int32} (ht : τ.1 a = 15) (hj : am_inb j (τ.2.1 a) = true) : AW d 279 903 [x0, x1, x2, x3] (.int j :: .ref a :: st) σ ρ g τ Q = AW d 279 904 [x0, x1, x2, x3] (.int (σ a j.toNatClampNeg) :: st) σ ρ g τ Q := aw_ial m279 d279_903 rfl ht hj
theorem d279_904 : decode cL_law 904 = .ok (.invokevirtual 92, 3) := by decide +kernel
theorem s279_904 {d : Nat} {st : List Value} {σ : am_I} {ρ : am_R} {g : am_J} {τ : am_T} {Q : am_Q} {x0 x1 x2 x3 : Value} {p0 : Nat} {p1 : Int32} {p2 : Int32} {p3 : Int32} (ht : τ.1 p0 = 12) (hs : st.length ≤ 4) : AW (d + 1) 279 904 [x0, x1, x2, x3] (.int p3 :: .int p2 :: .int p1 :: .ref p0 :: st) σ ρ g τ Q = AW d 215 0 [.ref p0, .int p1, .int p2, .int p3, am_jk] [] σ ρ g τ (fun r9 σ ρ g τ => AW (d + 1) 279 907 [x0, x1, x2, x3] (r9.toList ++ st) σ ρ g τ Q) := aw_cv m279 d279_904 rfl m215 rfl rfl (by decide) en215 ok215 rfl ht hs
theorem d279_907 : decode cL_law 907 = .ok (.if_icmp .eq 906, 3) := by decide +kernel
theorem s279_907 {d : Nat} {st : List Value} {σ : am_I} {ρ : am_R} {g : am_J} {τ : am_T} {Q : am_Q} {x0 x1 x2 x3 : Value} {v w : Int32} : AW d 279 907 [x0, x1, x2, x3] (.int w :: .int v :: st) σ ρ g τ Q = if v = w then AW d 279 1813 [x0, x1, x2, x3] (st) σ ρ g τ Q else AW d 279 910 [x0, x1, x2, x3] (st) σ ρ g τ Q := aw_br m279 d279_907 rfl rfl rfl
theorem d279_910 : decode cL_law 910 = .ok (.iconst 0, 1) := by decide +kernel
theorem s279_910 {d : Nat} {st : List Value} {σ : am_I} {ρ : am_R} {g : am_J} {τ : am_T} {Q : am_Q} {x0 x1 x2 x3 : Value} : AW d 279 910 [x0, x1, x2, x3] (st) σ ρ g τ Q = AW d 279 911 [x0, x1, x2, x3] (.int 0 :: st) σ ρ g τ Q := aw_lc m279 d279_910 rfl rfl rfl
theorem d279_911 : decode cL_law 911 = .ok (.ireturn, 1) := by decide +kernel
theorem s279_911 {d : Nat} {σ : am_I} {ρ : am_R} {g : am_J} {τ : am_T} {Q : am_Q} {x0 x1 x2 x3 : Value} {v : Int32} (hv : am_b01 v = true) : AW d 279 911 [x0, x1, x2, x3] ([.int v]) σ ρ g τ Q = Q (some (.int v)) σ ρ g τ := aw_rz m279 d279_911 rfl hv
theorem d279_912 : decode cL_law 912 = .ok (.aload_n 1, 1) := by decide +kernel
theorem s279_912 {d : Nat} {st : List Value} {σ : am_I} {ρ : am_R} {g : am_J} {τ : am_T} {Q : am_Q} {x0 x2 x3 : Value} {v : Nat} : AW d 279 912 [x0, .ref v, x2, x3] (st) σ ρ g τ Q = AW d 279 913 [x0, .ref v, x2, x3] (.ref v :: st) σ ρ g τ Q := aw_lc m279 d279_912 rfl rfl rfl
theorem d279_913 : decode cL_law 913 = .ok (.aload_n 0, 1) := by decide +kernel
theorem s279_913 {d : Nat} {st : List Value} {σ : am_I} {ρ : am_R} {g : am_J} {τ : am_T} {Q : am_Q} {x1 x2 x3 : Value} {v : Nat} : AW d 279 913 [.ref v, x1, x2, x3] (st) σ ρ g τ Q = AW d 279 914 [.ref v, x1, x2, x3] (.ref v :: st) σ ρ g τ Q := aw_lc m279 d279_913 rfl rfl rfl
theorem d279_914 : decode cL_law 914 = .ok (.iload_n 3, 1) := by decide +kernel
theorem s279_914 {d : Nat} {st : List Value} {σ : am_I} {ρ : am_R} {g : am_J} {τ : am_T} {Q : am_Q} {x0 x1 x2 : Value} {v : Int32} : AW d 279 914 [x0, x1, x2, .int v] (st) σ ρ g τ Q = AW d 279 915 [x0, x1, x2, .int v] (.int v :: st) σ ρ g τ Q := aw_lc m279 d279_914 rfl rfl rfl
theorem d279_915 : decode cL_law 915 = .ok (.iconst 1, 1) := by decide +kernel
theorem s279_915 {d : Nat} {st : List Value} {σ : am_I} {ρ : am_R} {g : am_J} {τ : am_T} {Q : am_Q} {x0 x1 x2 x3 : Value} : AW d 279 915 [x0, x1, x2, x3] (st) σ ρ g τ Q = AW d 279 916 [x0, x1, x2, x3] (.int 1 :: st) σ ρ g τ Q := aw_lc m279 d279_915 rfl rfl rfl
theorem d279_916 : decode cL_law 916 = .ok (.iadd, 1) := by decide +kernel
theorem s279_916 {d : Nat} {st : List Value} {σ : am_I} {ρ : am_R} {g : am_J} {τ : am_T} {Q : am_Q} {x0 x1 x2 x3 : Value} {v w : Int32} : AW d 279 916 [x0, x1, x2, x3] (.int w :: .int v :: st) σ ρ g τ Q = AW d 279 917 [x0, x1, x2, x3] (.int (v + w) :: st) σ ρ g τ Q := aw_lc m279 d279_916 rfl rfl rfl
theorem d279_917 : decode cL_law 917 = .ok (.iaload, 1) := by decide +kernel
theorem s279_917 {d : Nat} {st : List Value} {σ : am_I} {ρ : am_R} {g : am_J} {τ : am_T} {Q : am_Q} {x0 x1 x2 x3 : Value} {a : Nat} {j : Int32} (ht : τ.1 a = 15) (hj : am_inb j (τ.2.1 a) = true) : AW d 279 917 [x0, x1, x2, x3] (.int j :: .ref a :: st) σ ρ g τ Q = AW d 279 918 [x0, x1, x2, x3] (.int (σ a j.toNatClampNeg) :: st) σ ρ g τ Q := aw_ial m279 d279_917 rfl ht hj
theorem d279_918 : decode cL_law 918 = .ok (.aload_n 0, 1) := by decide +kernel
theorem s279_918 {d : Nat} {st : List Value} {σ : am_I} {ρ : am_R} {g : am_J} {τ : am_T} {Q : am_Q} {x1 x2 x3 : Value} {v : Nat} : AW d 279 918 [.ref v, x1, x2, x3] (st) σ ρ g τ Q = AW d 279 919 [.ref v, x1, x2, x3] (.ref v :: st) σ ρ g τ Q := aw_lc m279 d279_918 rfl rfl rfl
theorem d279_919 : decode cL_law 919 = .ok (.iload_n 3, 1) := by decide +kernel
theorem s279_919 {d : Nat} {st : List Value} {σ : am_I} {ρ : am_R} {g : am_J} {τ : am_T} {Q : am_Q} {x0 x1 x2 : Value} {v : Int32} : AW d 279 919 [x0, x1, x2, .int v] (st) σ ρ g τ Q = AW d 279 920 [x0, x1, x2, .int v] (.int v :: st) σ ρ g τ Q := aw_lc m279 d279_919 rfl rfl rfl
theorem d279_920 : decode cL_law 920 = .ok (.iconst 2, 1) := by decide +kernel
theorem s279_920 {d : Nat} {st : List Value} {σ : am_I} {ρ : am_R} {g : am_J} {τ : am_T} {Q : am_Q} {x0 x1 x2 x3 : Value} : AW d 279 920 [x0, x1, x2, x3] (st) σ ρ g τ Q = AW d 279 921 [x0, x1, x2, x3] (.int 2 :: st) σ ρ g τ Q := aw_lc m279 d279_920 rfl rfl rfl
theorem d279_921 : decode cL_law 921 = .ok (.iadd, 1) := by decide +kernel
theorem s279_921 {d : Nat} {st : List Value} {σ : am_I} {ρ : am_R} {g : am_J} {τ : am_T} {Q : am_Q} {x0 x1 x2 x3 : Value} {v w : Int32} : AW d 279 921 [x0, x1, x2, x3] (.int w :: .int v :: st) σ ρ g τ Q = AW d 279 922 [x0, x1, x2, x3] (.int (v + w) :: st) σ ρ g τ Q := aw_lc m279 d279_921 rfl rfl rfl
theorem d279_922 : decode cL_law 922 = .ok (.iaload, 1) := by decide +kernel
theorem s279_922 {d : Nat} {st : List Value} {σ : am_I} {ρ : am_R} {g : am_J} {τ : am_T} {Q : am_Q} {x0 x1 x2 x3 : Value} {a : Nat} {j : Int32} (ht : τ.1 a = 15) (hj : am_inb j (τ.2.1 a) = true) : AW d 279 922 [x0, x1, x2, x3] (.int j :: .ref a :: st) σ ρ g τ Q = AW d 279 923 [x0, x1, x2, x3] (.int (σ a j.toNatClampNeg) :: st) σ ρ g τ Q := aw_ial m279 d279_922 rfl ht hj
theorem d279_923 : decode cL_law 923 = .ok (.aload_n 0, 1) := by decide +kernel
theorem s279_923 {d : Nat} {st : List Value} {σ : am_I} {ρ : am_R} {g : am_J} {τ : am_T} {Q : am_Q} {x1 x2 x3 : Value} {v : Nat} : AW d 279 923 [.ref v, x1, x2, x3] (st) σ ρ g τ Q = AW d 279 924 [.ref v, x1, x2, x3] (.ref v :: st) σ ρ g τ Q := aw_lc m279 d279_923 rfl rfl rfl
theorem d279_924 : decode cL_law 924 = .ok (.iload_n 3, 1) := by decide +kernel
theorem s279_924 {d : Nat} {st : List Value} {σ : am_I} {ρ : am_R} {g : am_J} {τ : am_T} {Q : am_Q} {x0 x1 x2 : Value} {v : Int32} : AW d 279 924 [x0, x1, x2, .int v] (st) σ ρ g τ Q = AW d 279 925 [x0, x1, x2, .int v] (.int v :: st) σ ρ g τ Q := aw_lc m279 d279_924 rfl rfl rfl
theorem d279_925 : decode cL_law 925 = .ok (.iconst 3, 1) := by decide +kernel
theorem s279_925 {d : Nat} {st : List Value} {σ : am_I} {ρ : am_R} {g : am_J} {τ : am_T} {Q : am_Q} {x0 x1 x2 x3 : Value} : AW d 279 925 [x0, x1, x2, x3] (st) σ ρ g τ Q = AW d 279 926 [x0, x1, x2, x3] (.int 3 :: st) σ ρ g τ Q := aw_lc m279 d279_925 rfl rfl rfl
theorem d279_926 : decode cL_law 926 = .ok (.iadd, 1) := by decide +kernel
theorem s279_926 {d : Nat} {st : List Value} {σ : am_I} {ρ : am_R} {g : am_J} {τ : am_T} {Q : am_Q} {x0 x1 x2 x3 : Value} {v w : Int32} : AW d 279 926 [x0, x1, x2, x3] (.int w :: .int v :: st) σ ρ g τ Q = AW d 279 927 [x0, x1, x2, x3] (.int (v + w) :: st) σ ρ g τ Q := aw_lc m279 d279_926 rfl rfl rfl
theorem d279_927 : decode cL_law 927 = .ok (.iaload, 1) := by decide +kernel
theorem s279_927 {d : Nat} {st : List Value} {σ : am_I} {ρ : am_R} {g : am_J} {τ : am_T} {Q : am_Q} {x0 x1 x2 x3 : Value} {a : Nat} {j : Int32} (ht : τ.1 a = 15) (hj : am_inb j (τ.2.1 a) = true) : AW d 279 927 [x0, x1, x2, x3] (.int j :: .ref a :: st) σ ρ g τ Q = AW d 279 928 [x0, x1, x2, x3] (.int (σ a j.toNatClampNeg) :: st) σ ρ g τ Q := aw_ial m279 d279_927 rfl ht hj
theorem d279_928 : decode cL_law 928 = .ok (.invokevirtual 93, 3) := by decide +kernel
theorem s279_928 {d : Nat} {st : List Value} {σ : am_I} {ρ : am_R} {g : am_J} {τ : am_T} {Q : am_Q} {x0 x1 x2 x3 : Value} {p0 : Nat} {p1 : Int32} {p2 : Int32} {p3 : Int32} (ht : τ.1 p0 = 11) (hs : st.length ≤ 4) : AW (d + 1) 279 928 [x0, x1, x2, x3] (.int p3 :: .int p2 :: .int p1 :: .ref p0 :: st) σ ρ g τ Q = AW d 130 0 [.ref p0, .int p1, .int p2, .int p3] [] σ ρ g τ (fun r9 σ ρ g τ => AW (d + 1) 279 931 [x0, x1, x2, x3] (r9.toList ++ st) σ ρ g τ Q) := aw_cv m279 d279_928 rfl m130 rfl rfl (by decide) en130 ok130 rfl ht hs
theorem d279_931 : decode cL_law 931 = .ok (.aload_n 2, 1) := by decide +kernel
theorem s279_931 {d : Nat} {st : List Value} {σ : am_I} {ρ : am_R} {g : am_J} {τ : am_T} {Q : am_Q} {x0 x1 x3 : Value} {v : Nat} : AW d 279 931 [x0, x1, .ref v, x3] (st) σ ρ g τ Q = AW d 279 932 [x0, x1, .ref v, x3] (.ref v :: st) σ ρ g τ Q := aw_lc m279 d279_931 rfl rfl rfl
theorem d279_932 : decode cL_law 932 = .ok (.aload_n 0, 1) := by decide +kernel
theorem s279_932 {d : Nat} {st : List Value} {σ : am_I} {ρ : am_R} {g : am_J} {τ : am_T} {Q : am_Q} {x1 x2 x3 : Value} {v : Nat} : AW d 279 932 [.ref v, x1, x2, x3] (st) σ ρ g τ Q = AW d 279 933 [.ref v, x1, x2, x3] (.ref v :: st) σ ρ g τ Q := aw_lc m279 d279_932 rfl rfl rfl
theorem d279_933 : decode cL_law 933 = .ok (.iload_n 3, 1) := by decide +kernel
theorem s279_933 {d : Nat} {st : List Value} {σ : am_I} {ρ : am_R} {g : am_J} {τ : am_T} {Q : am_Q} {x0 x1 x2 : Value} {v : Int32} : AW d 279 933 [x0, x1, x2, .int v] (st) σ ρ g τ Q = AW d 279 934 [x0, x1, x2, .int v] (.int v :: st) σ ρ g τ Q := aw_lc m279 d279_933 rfl rfl rfl
theorem d279_934 : decode cL_law 934 = .ok (.iconst 1, 1) := by decide +kernel
theorem s279_934 {d : Nat} {st : List Value} {σ : am_I} {ρ : am_R} {g : am_J} {τ : am_T} {Q : am_Q} {x0 x1 x2 x3 : Value} : AW d 279 934 [x0, x1, x2, x3] (st) σ ρ g τ Q = AW d 279 935 [x0, x1, x2, x3] (.int 1 :: st) σ ρ g τ Q := aw_lc m279 d279_934 rfl rfl rfl
theorem d279_935 : decode cL_law 935 = .ok (.iadd, 1) := by decide +kernel
theorem s279_935 {d : Nat} {st : List Value} {σ : am_I} {ρ : am_R} {g : am_J} {τ : am_T} {Q : am_Q} {x0 x1 x2 x3 : Value} {v w : Int32} : AW d 279 935 [x0, x1, x2, x3] (.int w :: .int v :: st) σ ρ g τ Q = AW d 279 936 [x0, x1, x2, x3] (.int (v + w) :: st) σ ρ g τ Q := aw_lc m279 d279_935 rfl rfl rfl
theorem d279_936 : decode cL_law 936 = .ok (.iaload, 1) := by decide +kernel
theorem s279_936 {d : Nat} {st : List Value} {σ : am_I} {ρ : am_R} {g : am_J} {τ : am_T} {Q : am_Q} {x0 x1 x2 x3 : Value} {a : Nat} {j : Int32} (ht : τ.1 a = 15) (hj : am_inb j (τ.2.1 a) = true) : AW d 279 936 [x0, x1, x2, x3] (.int j :: .ref a :: st) σ ρ g τ Q = AW d 279 937 [x0, x1, x2, x3] (.int (σ a j.toNatClampNeg) :: st) σ ρ g τ Q := aw_ial m279 d279_936 rfl ht hj
theorem d279_937 : decode cL_law 937 = .ok (.aload_n 0, 1) := by decide +kernel
theorem s279_937 {d : Nat} {st : List Value} {σ : am_I} {ρ : am_R} {g : am_J} {τ : am_T} {Q : am_Q} {x1 x2 x3 : Value} {v : Nat} : AW d 279 937 [.ref v, x1, x2, x3] (st) σ ρ g τ Q = AW d 279 938 [.ref v, x1, x2, x3] (.ref v :: st) σ ρ g τ Q := aw_lc m279 d279_937 rfl rfl rfl
theorem d279_938 : decode cL_law 938 = .ok (.iload_n 3, 1) := by decide +kernel
theorem s279_938 {d : Nat} {st : List Value} {σ : am_I} {ρ : am_R} {g : am_J} {τ : am_T} {Q : am_Q} {x0 x1 x2 : Value} {v : Int32} : AW d 279 938 [x0, x1, x2, .int v] (st) σ ρ g τ Q = AW d 279 939 [x0, x1, x2, .int v] (.int v :: st) σ ρ g τ Q := aw_lc m279 d279_938 rfl rfl rfl
theorem d279_939 : decode cL_law 939 = .ok (.iconst 2, 1) := by decide +kernel
theorem s279_939 {d : Nat} {st : List Value} {σ : am_I} {ρ : am_R} {g : am_J} {τ : am_T} {Q : am_Q} {x0 x1 x2 x3 : Value} : AW d 279 939 [x0, x1, x2, x3] (st) σ ρ g τ Q = AW d 279 940 [x0, x1, x2, x3] (.int 2 :: st) σ ρ g τ Q := aw_lc m279 d279_939 rfl rfl rfl
theorem d279_940 : decode cL_law 940 = .ok (.iadd, 1) := by decide +kernel
theorem s279_940 {d : Nat} {st : List Value} {σ : am_I} {ρ : am_R} {g : am_J} {τ : am_T} {Q : am_Q} {x0 x1 x2 x3 : Value} {v w : Int32} : AW d 279 940 [x0, x1, x2, x3] (.int w :: .int v :: st) σ ρ g τ Q = AW d 279 941 [x0, x1, x2, x3] (.int (v + w) :: st) σ ρ g τ Q := aw_lc m279 d279_940 rfl rfl rfl
theorem d279_941 : decode cL_law 941 = .ok (.iaload, 1) := by decide +kernel
theorem s279_941 {d : Nat} {st : List Value} {σ : am_I} {ρ : am_R} {g : am_J} {τ : am_T} {Q : am_Q} {x0 x1 x2 x3 : Value} {a : Nat} {j : Int32} (ht : τ.1 a = 15) (hj : am_inb j (τ.2.1 a) = true) : AW d 279 941 [x0, x1, x2, x3] (.int j :: .ref a :: st) σ ρ g τ Q = AW d 279 942 [x0, x1, x2, x3] (.int (σ a j.toNatClampNeg) :: st) σ ρ g τ Q := aw_ial m279 d279_941 rfl ht hj
theorem d279_942 : decode cL_law 942 = .ok (.aload_n 0, 1) := by decide +kernel
theorem s279_942 {d : Nat} {st : List Value} {σ : am_I} {ρ : am_R} {g : am_J} {τ : am_T} {Q : am_Q} {x1 x2 x3 : Value} {v : Nat} : AW d 279 942 [.ref v, x1, x2, x3] (st) σ ρ g τ Q = AW d 279 943 [.ref v, x1, x2, x3] (.ref v :: st) σ ρ g τ Q := aw_lc m279 d279_942 rfl rfl rfl
theorem d279_943 : decode cL_law 943 = .ok (.iload_n 3, 1) := by decide +kernel
theorem s279_943 {d : Nat} {st : List Value} {σ : am_I} {ρ : am_R} {g : am_J} {τ : am_T} {Q : am_Q} {x0 x1 x2 : Value} {v : Int32} : AW d 279 943 [x0, x1, x2, .int v] (st) σ ρ g τ Q = AW d 279 944 [x0, x1, x2, .int v] (.int v :: st) σ ρ g τ Q := aw_lc m279 d279_943 rfl rfl rfl
theorem d279_944 : decode cL_law 944 = .ok (.iconst 3, 1) := by decide +kernel
theorem s279_944 {d : Nat} {st : List Value} {σ : am_I} {ρ : am_R} {g : am_J} {τ : am_T} {Q : am_Q} {x0 x1 x2 x3 : Value} : AW d 279 944 [x0, x1, x2, x3] (st) σ ρ g τ Q = AW d 279 945 [x0, x1, x2, x3] (.int 3 :: st) σ ρ g τ Q := aw_lc m279 d279_944 rfl rfl rfl
theorem d279_945 : decode cL_law 945 = .ok (.iadd, 1) := by decide +kernel
theorem s279_945 {d : Nat} {st : List Value} {σ : am_I} {ρ : am_R} {g : am_J} {τ : am_T} {Q : am_Q} {x0 x1 x2 x3 : Value} {v w : Int32} : AW d 279 945 [x0, x1, x2, x3] (.int w :: .int v :: st) σ ρ g τ Q = AW d 279 946 [x0, x1, x2, x3] (.int (v + w) :: st) σ ρ g τ Q := aw_lc m279 d279_945 rfl rfl rfl
theorem d279_946 : decode cL_law 946 = .ok (.iaload, 1) := by decide +kernel
theorem s279_946 {d : Nat} {st : List Value} {σ : am_I} {ρ : am_R} {g : am_J} {τ : am_T} {Q : am_Q} {x0 x1 x2 x3 : Value} {a : Nat} {j : Int32} (ht : τ.1 a = 15) (hj : am_inb j (τ.2.1 a) = true) : AW d 279 946 [x0, x1, x2, x3] (.int j :: .ref a :: st) σ ρ g τ Q = AW d 279 947 [x0, x1, x2, x3] (.int (σ a j.toNatClampNeg) :: st) σ ρ g τ Q := aw_ial m279 d279_946 rfl ht hj
theorem d279_947 : decode cL_law 947 = .ok (.invokevirtual 96, 3) := by decide +kernel
theorem s279_947 {d : Nat} {st : List Value} {σ : am_I} {ρ : am_R} {g : am_J} {τ : am_T} {Q : am_Q} {x0 x1 x2 x3 : Value} {p0 : Nat} {p1 : Int32} {p2 : Int32} {p3 : Int32} (ht : τ.1 p0 = 12) (hs : st.length ≤ 4) : AW (d + 1) 279 947 [x0, x1, x2, x3] (.int p3 :: .int p2 :: .int p1 :: .ref p0 :: st) σ ρ g τ Q = AW d 219 0 [.ref p0, .int p1, .int p2, .int p3, am_jk] [] σ ρ g τ (fun r9 σ ρ g τ => AW (d + 1) 279 950 [x0, x1, x2, x3] (r9.toList ++ st) σ ρ g τ Q) := aw_cv m279 d279_947 rfl m219 rfl rfl (by decide) en219 ok219 rfl ht hs
theorem d279_950 : decode cL_law 950 = .ok (.if_icmp .eq 863, 3) := by decide +kernel
theorem s279_950 {d : Nat} {st : List Value} {σ : am_I} {ρ : am_R} {g : am_J} {τ : am_T} {Q : am_Q} {x0 x1 x2 x3 : Value} {v w : Int32} : AW d 279 950 [x0, x1, x2, x3] (.int w :: .int v :: st) σ ρ g τ Q = if v = w then AW d 279 1813 [x0, x1, x2, x3] (st) σ ρ g τ Q else AW d 279 953 [x0, x1, x2, x3] (st) σ ρ g τ Q := aw_br m279 d279_950 rfl rfl rfl
theorem d279_953 : decode cL_law 953 = .ok (.iconst 0, 1) := by decide +kernel
theorem s279_953 {d : Nat} {st : List Value} {σ : am_I} {ρ : am_R} {g : am_J} {τ : am_T} {Q : am_Q} {x0 x1 x2 x3 : Value} : AW d 279 953 [x0, x1, x2, x3] (st) σ ρ g τ Q = AW d 279 954 [x0, x1, x2, x3] (.int 0 :: st) σ ρ g τ Q := aw_lc m279 d279_953 rfl rfl rfl
theorem d279_954 : decode cL_law 954 = .ok (.ireturn, 1) := by decide +kernel
theorem s279_954 {d : Nat} {σ : am_I} {ρ : am_R} {g : am_J} {τ : am_T} {Q : am_Q} {x0 x1 x2 x3 : Value} {v : Int32} (hv : am_b01 v = true) : AW d 279 954 [x0, x1, x2, x3] ([.int v]) σ ρ g τ Q = Q (some (.int v)) σ ρ g τ := aw_rz m279 d279_954 rfl hv
theorem d279_955 : decode cL_law 955 = .ok (.aload_n 1, 1) := by decide +kernel
theorem s279_955 {d : Nat} {st : List Value} {σ : am_I} {ρ : am_R} {g : am_J} {τ : am_T} {Q : am_Q} {x0 x2 x3 : Value} {v : Nat} : AW d 279 955 [x0, .ref v, x2, x3] (st) σ ρ g τ Q = AW d 279 956 [x0, .ref v, x2, x3] (.ref v :: st) σ ρ g τ Q := aw_lc m279 d279_955 rfl rfl rfl
theorem d279_956 : decode cL_law 956 = .ok (.aload_n 0, 1) := by decide +kernel
theorem s279_956 {d : Nat} {st : List Value} {σ : am_I} {ρ : am_R} {g : am_J} {τ : am_T} {Q : am_Q} {x1 x2 x3 : Value} {v : Nat} : AW d 279 956 [.ref v, x1, x2, x3] (st) σ ρ g τ Q = AW d 279 957 [.ref v, x1, x2, x3] (.ref v :: st) σ ρ g τ Q := aw_lc m279 d279_956 rfl rfl rfl
theorem d279_957 : decode cL_law 957 = .ok (.iload_n 3, 1) := by decide +kernel
theorem s279_957 {d : Nat} {st : List Value} {σ : am_I} {ρ : am_R} {g : am_J} {τ : am_T} {Q : am_Q} {x0 x1 x2 : Value} {v : Int32} : AW d 279 957 [x0, x1, x2, .int v] (st) σ ρ g τ Q = AW d 279 958 [x0, x1, x2, .int v] (.int v :: st) σ ρ g τ Q := aw_lc m279 d279_957 rfl rfl rfl
theorem d279_958 : decode cL_law 958 = .ok (.iconst 1, 1) := by decide +kernel
theorem s279_958 {d : Nat} {st : List Value} {σ : am_I} {ρ : am_R} {g : am_J} {τ : am_T} {Q : am_Q} {x0 x1 x2 x3 : Value} : AW d 279 958 [x0, x1, x2, x3] (st) σ ρ g τ Q = AW d 279 959 [x0, x1, x2, x3] (.int 1 :: st) σ ρ g τ Q := aw_lc m279 d279_958 rfl rfl rfl
theorem d279_959 : decode cL_law 959 = .ok (.iadd, 1) := by decide +kernel
theorem s279_959 {d : Nat} {st : List Value} {σ : am_I} {ρ : am_R} {g : am_J} {τ : am_T} {Q : am_Q} {x0 x1 x2 x3 : Value} {v w : Int32} : AW d 279 959 [x0, x1, x2, x3] (.int w :: .int v :: st) σ ρ g τ Q = AW d 279 960 [x0, x1, x2, x3] (.int (v + w) :: st) σ ρ g τ Q := aw_lc m279 d279_959 rfl rfl rfl
theorem d279_960 : decode cL_law 960 = .ok (.iaload, 1) := by decide +kernel
theorem s279_960 {d : Nat} {st : List Value} {σ : am_I} {ρ : am_R} {g : am_J} {τ : am_T} {Q : am_Q} {x0 x1 x2 x3 : Value} {a : Nat} {j : Int32} (ht : τ.1 a = 15) (hj : am_inb j (τ.2.1 a) = true) : AW d 279 960 [x0, x1, x2, x3] (.int j :: .ref a :: st) σ ρ g τ Q = AW d 279 961 [x0, x1, x2, x3] (.int (σ a j.toNatClampNeg) :: st) σ ρ g τ Q := aw_ial m279 d279_960 rfl ht hj
theorem d279_961 : decode cL_law 961 = .ok (.aload_n 0, 1) := by decide +kernel
theorem s279_961 {d : Nat} {st : List Value} {σ : am_I} {ρ : am_R} {g : am_J} {τ : am_T} {Q : am_Q} {x1 x2 x3 : Value} {v : Nat} : AW d 279 961 [.ref v, x1, x2, x3] (st) σ ρ g τ Q = AW d 279 962 [.ref v, x1, x2, x3] (.ref v :: st) σ ρ g τ Q := aw_lc m279 d279_961 rfl rfl rfl
theorem d279_962 : decode cL_law 962 = .ok (.iload_n 3, 1) := by decide +kernel
theorem s279_962 {d : Nat} {st : List Value} {σ : am_I} {ρ : am_R} {g : am_J} {τ : am_T} {Q : am_Q} {x0 x1 x2 : Value} {v : Int32} : AW d 279 962 [x0, x1, x2, .int v] (st) σ ρ g τ Q = AW d 279 963 [x0, x1, x2, .int v] (.int v :: st) σ ρ g τ Q := aw_lc m279 d279_962 rfl rfl rfl
theorem d279_963 : decode cL_law 963 = .ok (.iconst 2, 1) := by decide +kernel
theorem s279_963 {d : Nat} {st : List Value} {σ : am_I} {ρ : am_R} {g : am_J} {τ : am_T} {Q : am_Q} {x0 x1 x2 x3 : Value} : AW d 279 963 [x0, x1, x2, x3] (st) σ ρ g τ Q = AW d 279 964 [x0, x1, x2, x3] (.int 2 :: st) σ ρ g τ Q := aw_lc m279 d279_963 rfl rfl rfl
theorem d279_964 : decode cL_law 964 = .ok (.iadd, 1) := by decide +kernel
theorem s279_964 {d : Nat} {st : List Value} {σ : am_I} {ρ : am_R} {g : am_J} {τ : am_T} {Q : am_Q} {x0 x1 x2 x3 : Value} {v w : Int32} : AW d 279 964 [x0, x1, x2, x3] (.int w :: .int v :: st) σ ρ g τ Q = AW d 279 965 [x0, x1, x2, x3] (.int (v + w) :: st) σ ρ g τ Q := aw_lc m279 d279_964 rfl rfl rfl
theorem d279_965 : decode cL_law 965 = .ok (.iaload, 1) := by decide +kernel
theorem s279_965 {d : Nat} {st : List Value} {σ : am_I} {ρ : am_R} {g : am_J} {τ : am_T} {Q : am_Q} {x0 x1 x2 x3 : Value} {a : Nat} {j : Int32} (ht : τ.1 a = 15) (hj : am_inb j (τ.2.1 a) = true) : AW d 279 965 [x0, x1, x2, x3] (.int j :: .ref a :: st) σ ρ g τ Q = AW d 279 966 [x0, x1, x2, x3] (.int (σ a j.toNatClampNeg) :: st) σ ρ g τ Q := aw_ial m279 d279_965 rfl ht hj
theorem d279_966 : decode cL_law 966 = .ok (.invokevirtual 97, 3) := by decide +kernel
theorem s279_966 {d : Nat} {st : List Value} {σ : am_I} {ρ : am_R} {g : am_J} {τ : am_T} {Q : am_Q} {x0 x1 x2 x3 : Value} {p0 : Nat} {p1 : Int32} {p2 : Int32} (ht : τ.1 p0 = 11) (hs : st.length ≤ 4) : AW (d + 1) 279 966 [x0, x1, x2, x3] (.int p2 :: .int p1 :: .ref p0 :: st) σ ρ g τ Q = AW d 131 0 [.ref p0, .int p1, .int p2, am_jk] [] σ ρ g τ (fun r9 σ ρ g τ => AW (d + 1) 279 969 [x0, x1, x2, x3] (r9.toList ++ st) σ ρ g τ Q) := aw_cv m279 d279_966 rfl m131 rfl rfl (by decide) en131 ok131 rfl ht hs
theorem d279_969 : decode cL_law 969 = .ok (.aload_n 2, 1) := by decide +kernel
theorem s279_969 {d : Nat} {st : List Value} {σ : am_I} {ρ : am_R} {g : am_J} {τ : am_T} {Q : am_Q} {x0 x1 x3 : Value} {v : Nat} : AW d 279 969 [x0, x1, .ref v, x3] (st) σ ρ g τ Q = AW d 279 970 [x0, x1, .ref v, x3] (.ref v :: st) σ ρ g τ Q := aw_lc m279 d279_969 rfl rfl rfl
theorem d279_970 : decode cL_law 970 = .ok (.aload_n 0, 1) := by decide +kernel
theorem s279_970 {d : Nat} {st : List Value} {σ : am_I} {ρ : am_R} {g : am_J} {τ : am_T} {Q : am_Q} {x1 x2 x3 : Value} {v : Nat} : AW d 279 970 [.ref v, x1, x2, x3] (st) σ ρ g τ Q = AW d 279 971 [.ref v, x1, x2, x3] (.ref v :: st) σ ρ g τ Q := aw_lc m279 d279_970 rfl rfl rfl
theorem d279_971 : decode cL_law 971 = .ok (.iload_n 3, 1) := by decide +kernel
theorem s279_971 {d : Nat} {st : List Value} {σ : am_I} {ρ : am_R} {g : am_J} {τ : am_T} {Q : am_Q} {x0 x1 x2 : Value} {v : Int32} : AW d 279 971 [x0, x1, x2, .int v] (st) σ ρ g τ Q = AW d 279 972 [x0, x1, x2, .int v] (.int v :: st) σ ρ g τ Q := aw_lc m279 d279_971 rfl rfl rfl
theorem d279_972 : decode cL_law 972 = .ok (.iconst 1, 1) := by decide +kernel
theorem s279_972 {d : Nat} {st : List Value} {σ : am_I} {ρ : am_R} {g : am_J} {τ : am_T} {Q : am_Q} {x0 x1 x2 x3 : Value} : AW d 279 972 [x0, x1, x2, x3] (st) σ ρ g τ Q = AW d 279 973 [x0, x1, x2, x3] (.int 1 :: st) σ ρ g τ Q := aw_lc m279 d279_972 rfl rfl rfl
theorem d279_973 : decode cL_law 973 = .ok (.iadd, 1) := by decide +kernel
theorem s279_973 {d : Nat} {st : List Value} {σ : am_I} {ρ : am_R} {g : am_J} {τ : am_T} {Q : am_Q} {x0 x1 x2 x3 : Value} {v w : Int32} : AW d 279 973 [x0, x1, x2, x3] (.int w :: .int v :: st) σ ρ g τ Q = AW d 279 974 [x0, x1, x2, x3] (.int (v + w) :: st) σ ρ g τ Q := aw_lc m279 d279_973 rfl rfl rfl
theorem d279_974 : decode cL_law 974 = .ok (.iaload, 1) := by decide +kernel
theorem s279_974 {d : Nat} {st : List Value} {σ : am_I} {ρ : am_R} {g : am_J} {τ : am_T} {Q : am_Q} {x0 x1 x2 x3 : Value} {a : Nat} {j : Int32} (ht : τ.1 a = 15) (hj : am_inb j (τ.2.1 a) = true) : AW d 279 974 [x0, x1, x2, x3] (.int j :: .ref a :: st) σ ρ g τ Q = AW d 279 975 [x0, x1, x2, x3] (.int (σ a j.toNatClampNeg) :: st) σ ρ g τ Q := aw_ial m279 d279_974 rfl ht hj
theorem d279_975 : decode cL_law 975 = .ok (.aload_n 0, 1) := by decide +kernel
theorem s279_975 {d : Nat} {st : List Value} {σ : am_I} {ρ : am_R} {g : am_J} {τ : am_T} {Q : am_Q} {x1 x2 x3 : Value} {v : Nat} : AW d 279 975 [.ref v, x1, x2, x3] (st) σ ρ g τ Q = AW d 279 976 [.ref v, x1, x2, x3] (.ref v :: st) σ ρ g τ Q := aw_lc m279 d279_975 rfl rfl rfl
theorem d279_976 : decode cL_law 976 = .ok (.iload_n 3, 1) := by decide +kernel
theorem s279_976 {d : Nat} {st : List Value} {σ : am_I} {ρ : am_R} {g : am_J} {τ : am_T} {Q : am_Q} {x0 x1 x2 : Value} {v : Int32} : AW d 279 976 [x0, x1, x2, .int v] (st) σ ρ g τ Q = AW d 279 977 [x0, x1, x2, .int v] (.int v :: st) σ ρ g τ Q := aw_lc m279 d279_976 rfl rfl rfl
theorem d279_977 : decode cL_law 977 = .ok (.iconst 2, 1) := by decide +kernel
theorem s279_977 {d : Nat} {st : List Value} {σ : am_I} {ρ : am_R} {g : am_J} {τ : am_T} {Q : am_Q} {x0 x1 x2 x3 : Value} : AW d 279 977 [x0, x1, x2, x3] (st) σ ρ g τ Q = AW d 279 978 [x0, x1, x2, x3] (.int 2 :: st) σ ρ g τ Q := aw_lc m279 d279_977 rfl rfl rfl
theorem d279_978 : decode cL_law 978 = .ok (.iadd, 1) := by decide +kernel
theorem s279_978 {d : Nat} {st : List Value} {σ : am_I} {ρ : am_R} {g : am_J} {τ : am_T} {Q : am_Q} {x0 x1 x2 x3 : Value} {v w : Int32} : AW d 279 978 [x0, x1, x2, x3] (.int w :: .int v :: st) σ ρ g τ Q = AW d 279 979 [x0, x1, x2, x3] (.int (v + w) :: st) σ ρ g τ Q := aw_lc m279 d279_978 rfl rfl rfl
theorem d279_979 : decode cL_law 979 = .ok (.iaload, 1) := by decide +kernel
theorem s279_979 {d : Nat} {st : List Value} {σ : am_I} {ρ : am_R} {g : am_J} {τ : am_T} {Q : am_Q} {x0 x1 x2 x3 : Value} {a : Nat} {j : Int32} (ht : τ.1 a = 15) (hj : am_inb j (τ.2.1 a) = true) : AW d 279 979 [x0, x1, x2, x3] (.int j :: .ref a :: st) σ ρ g τ Q = AW d 279 980 [x0, x1, x2, x3] (.int (σ a j.toNatClampNeg) :: st) σ ρ g τ Q := aw_ial m279 d279_979 rfl ht hj
theorem d279_980 : decode cL_law 980 = .ok (.invokevirtual 100, 3) := by decide +kernel
theorem s279_980 {d : Nat} {st : List Value} {σ : am_I} {ρ : am_R} {g : am_J} {τ : am_T} {Q : am_Q} {x0 x1 x2 x3 : Value} {p0 : Nat} {p1 : Int32} {p2 : Int32} (ht : τ.1 p0 = 12) (hs : st.length ≤ 4) : AW (d + 1) 279 980 [x0, x1, x2, x3] (.int p2 :: .int p1 :: .ref p0 :: st) σ ρ g τ Q = AW d 223 0 [.ref p0, .int p1, .int p2, am_jk] [] σ ρ g τ (fun r9 σ ρ g τ => AW (d + 1) 279 983 [x0, x1, x2, x3] (r9.toList ++ st) σ ρ g τ Q) := aw_cv m279 d279_980 rfl m223 rfl rfl (by decide) en223 ok223 rfl ht hs
theorem d279_983 : decode cL_law 983 = .ok (.if_icmp .eq 830, 3) := by decide +kernel
theorem s279_983 {d : Nat} {st : List Value} {σ : am_I} {ρ : am_R} {g : am_J} {τ : am_T} {Q : am_Q} {x0 x1 x2 x3 : Value} {v w : Int32} : AW d 279 983 [x0, x1, x2, x3] (.int w :: .int v :: st) σ ρ g τ Q = if v = w then AW d 279 1813 [x0, x1, x2, x3] (st) σ ρ g τ Q else AW d 279 986 [x0, x1, x2, x3] (st) σ ρ g τ Q := aw_br m279 d279_983 rfl rfl rfl
theorem d279_986 : decode cL_law 986 = .ok (.iconst 0, 1) := by decide +kernel
theorem s279_986 {d : Nat} {st : List Value} {σ : am_I} {ρ : am_R} {g : am_J} {τ : am_T} {Q : am_Q} {x0 x1 x2 x3 : Value} : AW d 279 986 [x0, x1, x2, x3] (st) σ ρ g τ Q = AW d 279 987 [x0, x1, x2, x3] (.int 0 :: st) σ ρ g τ Q := aw_lc m279 d279_986 rfl rfl rfl
theorem d279_987 : decode cL_law 987 = .ok (.ireturn, 1) := by decide +kernel
theorem s279_987 {d : Nat} {σ : am_I} {ρ : am_R} {g : am_J} {τ : am_T} {Q : am_Q} {x0 x1 x2 x3 : Value} {v : Int32} (hv : am_b01 v = true) : AW d 279 987 [x0, x1, x2, x3] ([.int v]) σ ρ g τ Q = Q (some (.int v)) σ ρ g τ := aw_rz m279 d279_987 rfl hv
theorem d279_988 : decode cL_law 988 = .ok (.aload_n 1, 1) := by decide +kernel
theorem s279_988 {d : Nat} {st : List Value} {σ : am_I} {ρ : am_R} {g : am_J} {τ : am_T} {Q : am_Q} {x0 x2 x3 : Value} {v : Nat} : AW d 279 988 [x0, .ref v, x2, x3] (st) σ ρ g τ Q = AW d 279 989 [x0, .ref v, x2, x3] (.ref v :: st) σ ρ g τ Q := aw_lc m279 d279_988 rfl rfl rfl
theorem d279_989 : decode cL_law 989 = .ok (.aload_n 0, 1) := by decide +kernel
theorem s279_989 {d : Nat} {st : List Value} {σ : am_I} {ρ : am_R} {g : am_J} {τ : am_T} {Q : am_Q} {x1 x2 x3 : Value} {v : Nat} : AW d 279 989 [.ref v, x1, x2, x3] (st) σ ρ g τ Q = AW d 279 990 [.ref v, x1, x2, x3] (.ref v :: st) σ ρ g τ Q := aw_lc m279 d279_989 rfl rfl rfl
theorem d279_990 : decode cL_law 990 = .ok (.iload_n 3, 1) := by decide +kernel
theorem s279_990 {d : Nat} {st : List Value} {σ : am_I} {ρ : am_R} {g : am_J} {τ : am_T} {Q : am_Q} {x0 x1 x2 : Value} {v : Int32} : AW d 279 990 [x0, x1, x2, .int v] (st) σ ρ g τ Q = AW d 279 991 [x0, x1, x2, .int v] (.int v :: st) σ ρ g τ Q := aw_lc m279 d279_990 rfl rfl rfl
theorem d279_991 : decode cL_law 991 = .ok (.iconst 1, 1) := by decide +kernel
theorem s279_991 {d : Nat} {st : List Value} {σ : am_I} {ρ : am_R} {g : am_J} {τ : am_T} {Q : am_Q} {x0 x1 x2 x3 : Value} : AW d 279 991 [x0, x1, x2, x3] (st) σ ρ g τ Q = AW d 279 992 [x0, x1, x2, x3] (.int 1 :: st) σ ρ g τ Q := aw_lc m279 d279_991 rfl rfl rfl
theorem d279_992 : decode cL_law 992 = .ok (.iadd, 1) := by decide +kernel
theorem s279_992 {d : Nat} {st : List Value} {σ : am_I} {ρ : am_R} {g : am_J} {τ : am_T} {Q : am_Q} {x0 x1 x2 x3 : Value} {v w : Int32} : AW d 279 992 [x0, x1, x2, x3] (.int w :: .int v :: st) σ ρ g τ Q = AW d 279 993 [x0, x1, x2, x3] (.int (v + w) :: st) σ ρ g τ Q := aw_lc m279 d279_992 rfl rfl rfl
theorem d279_993 : decode cL_law 993 = .ok (.iaload, 1) := by decide +kernel
theorem s279_993 {d : Nat} {st : List Value} {σ : am_I} {ρ : am_R} {g : am_J} {τ : am_T} {Q : am_Q} {x0 x1 x2 x3 : Value} {a : Nat} {j : Int32} (ht : τ.1 a = 15) (hj : am_inb j (τ.2.1 a) = true) : AW d 279 993 [x0, x1, x2, x3] (.int j :: .ref a :: st) σ ρ g τ Q = AW d 279 994 [x0, x1, x2, x3] (.int (σ a j.toNatClampNeg) :: st) σ ρ g τ Q := aw_ial m279 d279_993 rfl ht hj
theorem d279_994 : decode cL_law 994 = .ok (.aload_n 0, 1) := by decide +kernel
theorem s279_994 {d : Nat} {st : List Value} {σ : am_I} {ρ : am_R} {g : am_J} {τ : am_T} {Q : am_Q} {x1 x2 x3 : Value} {v : Nat} : AW d 279 994 [.ref v, x1, x2, x3] (st) σ ρ g τ Q = AW d 279 995 [.ref v, x1, x2, x3] (.ref v :: st) σ ρ g τ Q := aw_lc m279 d279_994 rfl rfl rfl
theorem d279_995 : decode cL_law 995 = .ok (.iload_n 3, 1) := by decide +kernel
theorem s279_995 {d : Nat} {st : List Value} {σ : am_I} {ρ : am_R} {g : am_J} {τ : am_T} {Q : am_Q} {x0 x1 x2 : Value} {v : Int32} : AW d 279 995 [x0, x1, x2, .int v] (st) σ ρ g τ Q = AW d 279 996 [x0, x1, x2, .int v] (.int v :: st) σ ρ g τ Q := aw_lc m279 d279_995 rfl rfl rfl
theorem d279_996 : decode cL_law 996 = .ok (.iconst 2, 1) := by decide +kernel
theorem s279_996 {d : Nat} {st : List Value} {σ : am_I} {ρ : am_R} {g : am_J} {τ : am_T} {Q : am_Q} {x0 x1 x2 x3 : Value} : AW d 279 996 [x0, x1, x2, x3] (st) σ ρ g τ Q = AW d 279 997 [x0, x1, x2, x3] (.int 2 :: st) σ ρ g τ Q := aw_lc m279 d279_996 rfl rfl rfl
theorem d279_997 : decode cL_law 997 = .ok (.iadd, 1) := by decide +kernel
theorem s279_997 {d : Nat} {st : List Value} {σ : am_I} {ρ : am_R} {g : am_J} {τ : am_T} {Q : am_Q} {x0 x1 x2 x3 : Value} {v w : Int32} : AW d 279 997 [x0, x1, x2, x3] (.int w :: .int v :: st) σ ρ g τ Q = AW d 279 998 [x0, x1, x2, x3] (.int (v + w) :: st) σ ρ g τ Q := aw_lc m279 d279_997 rfl rfl rfl
theorem d279_998 : decode cL_law 998 = .ok (.iaload, 1) := by decide +kernel
theorem s279_998 {d : Nat} {st : List Value} {σ : am_I} {ρ : am_R} {g : am_J} {τ : am_T} {Q : am_Q} {x0 x1 x2 x3 : Value} {a : Nat} {j : Int32} (ht : τ.1 a = 15) (hj : am_inb j (τ.2.1 a) = true) : AW d 279 998 [x0, x1, x2, x3] (.int j :: .ref a :: st) σ ρ g τ Q = AW d 279 999 [x0, x1, x2, x3] (.int (σ a j.toNatClampNeg) :: st) σ ρ g τ Q := aw_ial m279 d279_998 rfl ht hj
theorem d279_999 : decode cL_law 999 = .ok (.invokevirtual 101, 3) := by decide +kernel
theorem s279_999 {d : Nat} {st : List Value} {σ : am_I} {ρ : am_R} {g : am_J} {τ : am_T} {Q : am_Q} {x0 x1 x2 x3 : Value} {p0 : Nat} {p1 : Int32} {p2 : Int32} (ht : τ.1 p0 = 11) (hs : st.length ≤ 4) : AW (d + 1) 279 999 [x0, x1, x2, x3] (.int p2 :: .int p1 :: .ref p0 :: st) σ ρ g τ Q = AW d 132 0 [.ref p0, .int p1, .int p2] [] σ ρ g τ (fun r9 σ ρ g τ => AW (d + 1) 279 1002 [x0, x1, x2, x3] (r9.toList ++ st) σ ρ g τ Q) := aw_cv m279 d279_999 rfl m132 rfl rfl (by decide) en132 ok132 rfl ht hs
theorem d279_1002 : decode cL_law 1002 = .ok (.aload_n 2, 1) := by decide +kernel
theorem s279_1002 {d : Nat} {st : List Value} {σ : am_I} {ρ : am_R} {g : am_J} {τ : am_T} {Q : am_Q} {x0 x1 x3 : Value} {v : Nat} : AW d 279 1002 [x0, x1, .ref v, x3] (st) σ ρ g τ Q = AW d 279 1003 [x0, x1, .ref v, x3] (.ref v :: st) σ ρ g τ Q := aw_lc m279 d279_1002 rfl rfl rfl
theorem d279_1003 : decode cL_law 1003 = .ok (.aload_n 0, 1) := by decide +kernel
theorem s279_1003 {d : Nat} {st : List Value} {σ : am_I} {ρ : am_R} {g : am_J} {τ : am_T} {Q : am_Q} {x1 x2 x3 : Value} {v : Nat} : AW d 279 1003 [.ref v, x1, x2, x3] (st) σ ρ g τ Q = AW d 279 1004 [.ref v, x1, x2, x3] (.ref v :: st) σ ρ g τ Q := aw_lc m279 d279_1003 rfl rfl rfl
theorem d279_1004 : decode cL_law 1004 = .ok (.iload_n 3, 1) := by decide +kernel
theorem s279_1004 {d : Nat} {st : List Value} {σ : am_I} {ρ : am_R} {g : am_J} {τ : am_T} {Q : am_Q} {x0 x1 x2 : Value} {v : Int32} : AW d 279 1004 [x0, x1, x2, .int v] (st) σ ρ g τ Q = AW d 279 1005 [x0, x1, x2, .int v] (.int v :: st) σ ρ g τ Q := aw_lc m279 d279_1004 rfl rfl rfl
theorem d279_1005 : decode cL_law 1005 = .ok (.iconst 1, 1) := by decide +kernel
theorem s279_1005 {d : Nat} {st : List Value} {σ : am_I} {ρ : am_R} {g : am_J} {τ : am_T} {Q : am_Q} {x0 x1 x2 x3 : Value} : AW d 279 1005 [x0, x1, x2, x3] (st) σ ρ g τ Q = AW d 279 1006 [x0, x1, x2, x3] (.int 1 :: st) σ ρ g τ Q := aw_lc m279 d279_1005 rfl rfl rfl
theorem d279_1006 : decode cL_law 1006 = .ok (.iadd, 1) := by decide +kernel
theorem s279_1006 {d : Nat} {st : List Value} {σ : am_I} {ρ : am_R} {g : am_J} {τ : am_T} {Q : am_Q} {x0 x1 x2 x3 : Value} {v w : Int32} : AW d 279 1006 [x0, x1, x2, x3] (.int w :: .int v :: st) σ ρ g τ Q = AW d 279 1007 [x0, x1, x2, x3] (.int (v + w) :: st) σ ρ g τ Q := aw_lc m279 d279_1006 rfl rfl rfl
theorem d279_1007 : decode cL_law 1007 = .ok (.iaload, 1) := by decide +kernel
theorem s279_1007 {d : Nat} {st : List Value} {σ : am_I} {ρ : am_R} {g : am_J} {τ : am_T} {Q : am_Q} {x0 x1 x2 x3 : Value} {a : Nat} {j : Int32} (ht : τ.1 a = 15) (hj : am_inb j (τ.2.1 a) = true) : AW d 279 1007 [x0, x1, x2, x3] (.int j :: .ref a :: st) σ ρ g τ Q = AW d 279 1008 [x0, x1, x2, x3] (.int (σ a j.toNatClampNeg) :: st) σ ρ g τ Q := aw_ial m279 d279_1007 rfl ht hj
theorem d279_1008 : decode cL_law 1008 = .ok (.aload_n 0, 1) := by decide +kernel
theorem s279_1008 {d : Nat} {st : List Value} {σ : am_I} {ρ : am_R} {g : am_J} {τ : am_T} {Q : am_Q} {x1 x2 x3 : Value} {v : Nat} : AW d 279 1008 [.ref v, x1, x2, x3] (st) σ ρ g τ Q = AW d 279 1009 [.ref v, x1, x2, x3] (.ref v :: st) σ ρ g τ Q := aw_lc m279 d279_1008 rfl rfl rfl
theorem d279_1009 : decode cL_law 1009 = .ok (.iload_n 3, 1) := by decide +kernel
theorem s279_1009 {d : Nat} {st : List Value} {σ : am_I} {ρ : am_R} {g : am_J} {τ : am_T} {Q : am_Q} {x0 x1 x2 : Value} {v : Int32} : AW d 279 1009 [x0, x1, x2, .int v] (st) σ ρ g τ Q = AW d 279 1010 [x0, x1, x2, .int v] (.int v :: st) σ ρ g τ Q := aw_lc m279 d279_1009 rfl rfl rfl
theorem d279_1010 : decode cL_law 1010 = .ok (.iconst 2, 1) := by decide +kernel
theorem s279_1010 {d : Nat} {st : List Value} {σ : am_I} {ρ : am_R} {g : am_J} {τ : am_T} {Q : am_Q} {x0 x1 x2 x3 : Value} : AW d 279 1010 [x0, x1, x2, x3] (st) σ ρ g τ Q = AW d 279 1011 [x0, x1, x2, x3] (.int 2 :: st) σ ρ g τ Q := aw_lc m279 d279_1010 rfl rfl rfl
theorem d279_1011 : decode cL_law 1011 = .ok (.iadd, 1) := by decide +kernel
theorem s279_1011 {d : Nat} {st : List Value} {σ : am_I} {ρ : am_R} {g : am_J} {τ : am_T} {Q : am_Q} {x0 x1 x2 x3 : Value} {v w : Int32} : AW d 279 1011 [x0, x1, x2, x3] (.int w :: .int v :: st) σ ρ g τ Q = AW d 279 1012 [x0, x1, x2, x3] (.int (v + w) :: st) σ ρ g τ Q := aw_lc m279 d279_1011 rfl rfl rfl
theorem d279_1012 : decode cL_law 1012 = .ok (.iaload, 1) := by decide +kernel
theorem s279_1012 {d : Nat} {st : List Value} {σ : am_I} {ρ : am_R} {g : am_J} {τ : am_T} {Q : am_Q} {x0 x1 x2 x3 : Value} {a : Nat} {j : Int32} (ht : τ.1 a = 15) (hj : am_inb j (τ.2.1 a) = true) : AW d 279 1012 [x0, x1, x2, x3] (.int j :: .ref a :: st) σ ρ g τ Q = AW d 279 1013 [x0, x1, x2, x3] (.int (σ a j.toNatClampNeg) :: st) σ ρ g τ Q := aw_ial m279 d279_1012 rfl ht hj
theorem d279_1013 : decode cL_law 1013 = .ok (.invokevirtual 104, 3) := by decide +kernel
theorem s279_1013 {d : Nat} {st : List Value} {σ : am_I} {ρ : am_R} {g : am_J} {τ : am_T} {Q : am_Q} {x0 x1 x2 x3 : Value} {p0 : Nat} {p1 : Int32} {p2 : Int32} (ht : τ.1 p0 = 12) (hs : st.length ≤ 4) : AW (d + 1) 279 1013 [x0, x1, x2, x3] (.int p2 :: .int p1 :: .ref p0 :: st) σ ρ g τ Q = AW d 224 0 [.ref p0, .int p1, .int p2] [] σ ρ g τ (fun r9 σ ρ g τ => AW (d + 1) 279 1016 [x0, x1, x2, x3] (r9.toList ++ st) σ ρ g τ Q) := aw_cv m279 d279_1013 rfl m224 rfl rfl (by decide) en224 ok224 rfl ht hs
theorem d279_1016 : decode cL_law 1016 = .ok (.if_icmp .eq 797, 3) := by decide +kernel
theorem s279_1016 {d : Nat} {st : List Value} {σ : am_I} {ρ : am_R} {g : am_J} {τ : am_T} {Q : am_Q} {x0 x1 x2 x3 : Value} {v w : Int32} : AW d 279 1016 [x0, x1, x2, x3] (.int w :: .int v :: st) σ ρ g τ Q = if v = w then AW d 279 1813 [x0, x1, x2, x3] (st) σ ρ g τ Q else AW d 279 1019 [x0, x1, x2, x3] (st) σ ρ g τ Q := aw_br m279 d279_1016 rfl rfl rfl
theorem d279_1019 : decode cL_law 1019 = .ok (.iconst 0, 1) := by decide +kernel
theorem s279_1019 {d : Nat} {st : List Value} {σ : am_I} {ρ : am_R} {g : am_J} {τ : am_T} {Q : am_Q} {x0 x1 x2 x3 : Value} : AW d 279 1019 [x0, x1, x2, x3] (st) σ ρ g τ Q = AW d 279 1020 [x0, x1, x2, x3] (.int 0 :: st) σ ρ g τ Q := aw_lc m279 d279_1019 rfl rfl rfl
theorem d279_1020 : decode cL_law 1020 = .ok (.ireturn, 1) := by decide +kernel
theorem s279_1020 {d : Nat} {σ : am_I} {ρ : am_R} {g : am_J} {τ : am_T} {Q : am_Q} {x0 x1 x2 x3 : Value} {v : Int32} (hv : am_b01 v = true) : AW d 279 1020 [x0, x1, x2, x3] ([.int v]) σ ρ g τ Q = Q (some (.int v)) σ ρ g τ := aw_rz m279 d279_1020 rfl hv
theorem d279_1021 : decode cL_law 1021 = .ok (.aload_n 1, 1) := by decide +kernel
theorem s279_1021 {d : Nat} {st : List Value} {σ : am_I} {ρ : am_R} {g : am_J} {τ : am_T} {Q : am_Q} {x0 x2 x3 : Value} {v : Nat} : AW d 279 1021 [x0, .ref v, x2, x3] (st) σ ρ g τ Q = AW d 279 1022 [x0, .ref v, x2, x3] (.ref v :: st) σ ρ g τ Q := aw_lc m279 d279_1021 rfl rfl rfl
theorem d279_1022 : decode cL_law 1022 = .ok (.aload_n 0, 1) := by decide +kernel
theorem s279_1022 {d : Nat} {st : List Value} {σ : am_I} {ρ : am_R} {g : am_J} {τ : am_T} {Q : am_Q} {x1 x2 x3 : Value} {v : Nat} : AW d 279 1022 [.ref v, x1, x2, x3] (st) σ ρ g τ Q = AW d 279 1023 [.ref v, x1, x2, x3] (.ref v :: st) σ ρ g τ Q := aw_lc m279 d279_1022 rfl rfl rfl
theorem d279_1023 : decode cL_law 1023 = .ok (.iload_n 3, 1) := by decide +kernel
theorem s279_1023 {d : Nat} {st : List Value} {σ : am_I} {ρ : am_R} {g : am_J} {τ : am_T} {Q : am_Q} {x0 x1 x2 : Value} {v : Int32} : AW d 279 1023 [x0, x1, x2, .int v] (st) σ ρ g τ Q = AW d 279 1024 [x0, x1, x2, .int v] (.int v :: st) σ ρ g τ Q := aw_lc m279 d279_1023 rfl rfl rfl
theorem d279_1024 : decode cL_law 1024 = .ok (.iconst 1, 1) := by decide +kernel
theorem s279_1024 {d : Nat} {st : List Value} {σ : am_I} {ρ : am_R} {g : am_J} {τ : am_T} {Q : am_Q} {x0 x1 x2 x3 : Value} : AW d 279 1024 [x0, x1, x2, x3] (st) σ ρ g τ Q = AW d 279 1025 [x0, x1, x2, x3] (.int 1 :: st) σ ρ g τ Q := aw_lc m279 d279_1024 rfl rfl rfl
theorem d279_1025 : decode cL_law 1025 = .ok (.iadd, 1) := by decide +kernel
theorem s279_1025 {d : Nat} {st : List Value} {σ : am_I} {ρ : am_R} {g : am_J} {τ : am_T} {Q : am_Q} {x0 x1 x2 x3 : Value} {v w : Int32} : AW d 279 1025 [x0, x1, x2, x3] (.int w :: .int v :: st) σ ρ g τ Q = AW d 279 1026 [x0, x1, x2, x3] (.int (v + w) :: st) σ ρ g τ Q := aw_lc m279 d279_1025 rfl rfl rfl
theorem d279_1026 : decode cL_law 1026 = .ok (.iaload, 1) := by decide +kernel
theorem s279_1026 {d : Nat} {st : List Value} {σ : am_I} {ρ : am_R} {g : am_J} {τ : am_T} {Q : am_Q} {x0 x1 x2 x3 : Value} {a : Nat} {j : Int32} (ht : τ.1 a = 15) (hj : am_inb j (τ.2.1 a) = true) : AW d 279 1026 [x0, x1, x2, x3] (.int j :: .ref a :: st) σ ρ g τ Q = AW d 279 1027 [x0, x1, x2, x3] (.int (σ a j.toNatClampNeg) :: st) σ ρ g τ Q := aw_ial m279 d279_1026 rfl ht hj
theorem d279_1027 : decode cL_law 1027 = .ok (.aload_n 0, 1) := by decide +kernel
theorem s279_1027 {d : Nat} {st : List Value} {σ : am_I} {ρ : am_R} {g : am_J} {τ : am_T} {Q : am_Q} {x1 x2 x3 : Value} {v : Nat} : AW d 279 1027 [.ref v, x1, x2, x3] (st) σ ρ g τ Q = AW d 279 1028 [.ref v, x1, x2, x3] (.ref v :: st) σ ρ g τ Q := aw_lc m279 d279_1027 rfl rfl rfl
theorem d279_1028 : decode cL_law 1028 = .ok (.iload_n 3, 1) := by decide +kernel
theorem s279_1028 {d : Nat} {st : List Value} {σ : am_I} {ρ : am_R} {g : am_J} {τ : am_T} {Q : am_Q} {x0 x1 x2 : Value} {v : Int32} : AW d 279 1028 [x0, x1, x2, .int v] (st) σ ρ g τ Q = AW d 279 1029 [x0, x1, x2, .int v] (.int v :: st) σ ρ g τ Q := aw_lc m279 d279_1028 rfl rfl rfl
theorem d279_1029 : decode cL_law 1029 = .ok (.iconst 2, 1) := by decide +kernel
theorem s279_1029 {d : Nat} {st : List Value} {σ : am_I} {ρ : am_R} {g : am_J} {τ : am_T} {Q : am_Q} {x0 x1 x2 x3 : Value} : AW d 279 1029 [x0, x1, x2, x3] (st) σ ρ g τ Q = AW d 279 1030 [x0, x1, x2, x3] (.int 2 :: st) σ ρ g τ Q := aw_lc m279 d279_1029 rfl rfl rfl
theorem d279_1030 : decode cL_law 1030 = .ok (.iadd, 1) := by decide +kernel
theorem s279_1030 {d : Nat} {st : List Value} {σ : am_I} {ρ : am_R} {g : am_J} {τ : am_T} {Q : am_Q} {x0 x1 x2 x3 : Value} {v w : Int32} : AW d 279 1030 [x0, x1, x2, x3] (.int w :: .int v :: st) σ ρ g τ Q = AW d 279 1031 [x0, x1, x2, x3] (.int (v + w) :: st) σ ρ g τ Q := aw_lc m279 d279_1030 rfl rfl rfl
theorem d279_1031 : decode cL_law 1031 = .ok (.iaload, 1) := by decide +kernel
theorem s279_1031 {d : Nat} {st : List Value} {σ : am_I} {ρ : am_R} {g : am_J} {τ : am_T} {Q : am_Q} {x0 x1 x2 x3 : Value} {a : Nat} {j : Int32} (ht : τ.1 a = 15) (hj : am_inb j (τ.2.1 a) = true) : AW d 279 1031 [x0, x1, x2, x3] (.int j :: .ref a :: st) σ ρ g τ Q = AW d 279 1032 [x0, x1, x2, x3] (.int (σ a j.toNatClampNeg) :: st) σ ρ g τ Q := aw_ial m279 d279_1031 rfl ht hj
theorem d279_1032 : decode cL_law 1032 = .ok (.aload_n 0, 1) := by decide +kernel
theorem s279_1032 {d : Nat} {st : List Value} {σ : am_I} {ρ : am_R} {g : am_J} {τ : am_T} {Q : am_Q} {x1 x2 x3 : Value} {v : Nat} : AW d 279 1032 [.ref v, x1, x2, x3] (st) σ ρ g τ Q = AW d 279 1033 [.ref v, x1, x2, x3] (.ref v :: st) σ ρ g τ Q := aw_lc m279 d279_1032 rfl rfl rfl
theorem d279_1033 : decode cL_law 1033 = .ok (.iload_n 3, 1) := by decide +kernel
theorem s279_1033 {d : Nat} {st : List Value} {σ : am_I} {ρ : am_R} {g : am_J} {τ : am_T} {Q : am_Q} {x0 x1 x2 : Value} {v : Int32} : AW d 279 1033 [x0, x1, x2, .int v] (st) σ ρ g τ Q = AW d 279 1034 [x0, x1, x2, .int v] (.int v :: st) σ ρ g τ Q := aw_lc m279 d279_1033 rfl rfl rfl
theorem d279_1034 : decode cL_law 1034 = .ok (.iconst 3, 1) := by decide +kernel
theorem s279_1034 {d : Nat} {st : List Value} {σ : am_I} {ρ : am_R} {g : am_J} {τ : am_T} {Q : am_Q} {x0 x1 x2 x3 : Value} : AW d 279 1034 [x0, x1, x2, x3] (st) σ ρ g τ Q = AW d 279 1035 [x0, x1, x2, x3] (.int 3 :: st) σ ρ g τ Q := aw_lc m279 d279_1034 rfl rfl rfl
theorem d279_1035 : decode cL_law 1035 = .ok (.iadd, 1) := by decide +kernel
theorem s279_1035 {d : Nat} {st : List Value} {σ : am_I} {ρ : am_R} {g : am_J} {τ : am_T} {Q : am_Q} {x0 x1 x2 x3 : Value} {v w : Int32} : AW d 279 1035 [x0, x1, x2, x3] (.int w :: .int v :: st) σ ρ g τ Q = AW d 279 1036 [x0, x1, x2, x3] (.int (v + w) :: st) σ ρ g τ Q := aw_lc m279 d279_1035 rfl rfl rfl
theorem d279_1036 : decode cL_law 1036 = .ok (.iaload, 1) := by decide +kernel
theorem s279_1036 {d : Nat} {st : List Value} {σ : am_I} {ρ : am_R} {g : am_J} {τ : am_T} {Q : am_Q} {x0 x1 x2 x3 : Value} {a : Nat} {j : Int32} (ht : τ.1 a = 15) (hj : am_inb j (τ.2.1 a) = true) : AW d 279 1036 [x0, x1, x2, x3] (.int j :: .ref a :: st) σ ρ g τ Q = AW d 279 1037 [x0, x1, x2, x3] (.int (σ a j.toNatClampNeg) :: st) σ ρ g τ Q := aw_ial m279 d279_1036 rfl ht hj
theorem d279_1037 : decode cL_law 1037 = .ok (.invokevirtual 105, 3) := by decide +kernel
theorem s279_1037 {d : Nat} {st : List Value} {σ : am_I} {ρ : am_R} {g : am_J} {τ : am_T} {Q : am_Q} {x0 x1 x2 x3 : Value} {p0 : Nat} {p1 : Int32} {p2 : Int32} {p3 : Int32} (ht : τ.1 p0 = 11) (hs : st.length ≤ 4) : AW (d + 1) 279 1037 [x0, x1, x2, x3] (.int p3 :: .int p2 :: .int p1 :: .ref p0 :: st) σ ρ g τ Q = AW d 133 0 [.ref p0, .int p1, .int p2, .int p3, am_jk] [] σ ρ g τ (fun r9 σ ρ g τ => AW (d + 1) 279 1040 [x0, x1, x2, x3] (r9.toList ++ st) σ ρ g τ Q) := aw_cv m279 d279_1037 rfl m133 rfl rfl (by decide) en133 ok133 rfl ht hs
theorem d279_1040 : decode cL_law 1040 = .ok (.aload_n 2, 1) := by decide +kernel
theorem s279_1040 {d : Nat} {st : List Value} {σ : am_I} {ρ : am_R} {g : am_J} {τ : am_T} {Q : am_Q} {x0 x1 x3 : Value} {v : Nat} : AW d 279 1040 [x0, x1, .ref v, x3] (st) σ ρ g τ Q = AW d 279 1041 [x0, x1, .ref v, x3] (.ref v :: st) σ ρ g τ Q := aw_lc m279 d279_1040 rfl rfl rfl
theorem d279_1041 : decode cL_law 1041 = .ok (.aload_n 0, 1) := by decide +kernel
theorem s279_1041 {d : Nat} {st : List Value} {σ : am_I} {ρ : am_R} {g : am_J} {τ : am_T} {Q : am_Q} {x1 x2 x3 : Value} {v : Nat} : AW d 279 1041 [.ref v, x1, x2, x3] (st) σ ρ g τ Q = AW d 279 1042 [.ref v, x1, x2, x3] (.ref v :: st) σ ρ g τ Q := aw_lc m279 d279_1041 rfl rfl rfl
theorem d279_1042 : decode cL_law 1042 = .ok (.iload_n 3, 1) := by decide +kernel
theorem s279_1042 {d : Nat} {st : List Value} {σ : am_I} {ρ : am_R} {g : am_J} {τ : am_T} {Q : am_Q} {x0 x1 x2 : Value} {v : Int32} : AW d 279 1042 [x0, x1, x2, .int v] (st) σ ρ g τ Q = AW d 279 1043 [x0, x1, x2, .int v] (.int v :: st) σ ρ g τ Q := aw_lc m279 d279_1042 rfl rfl rfl
theorem d279_1043 : decode cL_law 1043 = .ok (.iconst 1, 1) := by decide +kernel
theorem s279_1043 {d : Nat} {st : List Value} {σ : am_I} {ρ : am_R} {g : am_J} {τ : am_T} {Q : am_Q} {x0 x1 x2 x3 : Value} : AW d 279 1043 [x0, x1, x2, x3] (st) σ ρ g τ Q = AW d 279 1044 [x0, x1, x2, x3] (.int 1 :: st) σ ρ g τ Q := aw_lc m279 d279_1043 rfl rfl rfl
theorem d279_1044 : decode cL_law 1044 = .ok (.iadd, 1) := by decide +kernel
theorem s279_1044 {d : Nat} {st : List Value} {σ : am_I} {ρ : am_R} {g : am_J} {τ : am_T} {Q : am_Q} {x0 x1 x2 x3 : Value} {v w : Int32} : AW d 279 1044 [x0, x1, x2, x3] (.int w :: .int v :: st) σ ρ g τ Q = AW d 279 1045 [x0, x1, x2, x3] (.int (v + w) :: st) σ ρ g τ Q := aw_lc m279 d279_1044 rfl rfl rfl
theorem d279_1045 : decode cL_law 1045 = .ok (.iaload, 1) := by decide +kernel
theorem s279_1045 {d : Nat} {st : List Value} {σ : am_I} {ρ : am_R} {g : am_J} {τ : am_T} {Q : am_Q} {x0 x1 x2 x3 : Value} {a : Nat} {j : Int32} (ht : τ.1 a = 15) (hj : am_inb j (τ.2.1 a) = true) : AW d 279 1045 [x0, x1, x2, x3] (.int j :: .ref a :: st) σ ρ g τ Q = AW d 279 1046 [x0, x1, x2, x3] (.int (σ a j.toNatClampNeg) :: st) σ ρ g τ Q := aw_ial m279 d279_1045 rfl ht hj
theorem d279_1046 : decode cL_law 1046 = .ok (.aload_n 0, 1) := by decide +kernel
theorem s279_1046 {d : Nat} {st : List Value} {σ : am_I} {ρ : am_R} {g : am_J} {τ : am_T} {Q : am_Q} {x1 x2 x3 : Value} {v : Nat} : AW d 279 1046 [.ref v, x1, x2, x3] (st) σ ρ g τ Q = AW d 279 1047 [.ref v, x1, x2, x3] (.ref v :: st) σ ρ g τ Q := aw_lc m279 d279_1046 rfl rfl rfl
theorem d279_1047 : decode cL_law 1047 = .ok (.iload_n 3, 1) := by decide +kernel
theorem s279_1047 {d : Nat} {st : List Value} {σ : am_I} {ρ : am_R} {g : am_J} {τ : am_T} {Q : am_Q} {x0 x1 x2 : Value} {v : Int32} : AW d 279 1047 [x0, x1, x2, .int v] (st) σ ρ g τ Q = AW d 279 1048 [x0, x1, x2, .int v] (.int v :: st) σ ρ g τ Q := aw_lc m279 d279_1047 rfl rfl rfl
theorem d279_1048 : decode cL_law 1048 = .ok (.iconst 2, 1) := by decide +kernel
theorem s279_1048 {d : Nat} {st : List Value} {σ : am_I} {ρ : am_R} {g : am_J} {τ : am_T} {Q : am_Q} {x0 x1 x2 x3 : Value} : AW d 279 1048 [x0, x1, x2, x3] (st) σ ρ g τ Q = AW d 279 1049 [x0, x1, x2, x3] (.int 2 :: st) σ ρ g τ Q := aw_lc m279 d279_1048 rfl rfl rfl
theorem d279_1049 : decode cL_law 1049 = .ok (.iadd, 1) := by decide +kernel
theorem s279_1049 {d : Nat} {st : List Value} {σ : am_I} {ρ : am_R} {g : am_J} {τ : am_T} {Q : am_Q} {x0 x1 x2 x3 : Value} {v w : Int32} : AW d 279 1049 [x0, x1, x2, x3] (.int w :: .int v :: st) σ ρ g τ Q = AW d 279 1050 [x0, x1, x2, x3] (.int (v + w) :: st) σ ρ g τ Q := aw_lc m279 d279_1049 rfl rfl rfl
theorem d279_1050 : decode cL_law 1050 = .ok (.iaload, 1) := by decide +kernel
theorem s279_1050 {d : Nat} {st : List Value} {σ : am_I} {ρ : am_R} {g : am_J} {τ : am_T} {Q : am_Q} {x0 x1 x2 x3 : Value} {a : Nat} {j : Int32} (ht : τ.1 a = 15) (hj : am_inb j (τ.2.1 a) = true) : AW d 279 1050 [x0, x1, x2, x3] (.int j :: .ref a :: st) σ ρ g τ Q = AW d 279 1051 [x0, x1, x2, x3] (.int (σ a j.toNatClampNeg) :: st) σ ρ g τ Q := aw_ial m279 d279_1050 rfl ht hj
theorem d279_1051 : decode cL_law 1051 = .ok (.aload_n 0, 1) := by decide +kernel
theorem s279_1051 {d : Nat} {st : List Value} {σ : am_I} {ρ : am_R} {g : am_J} {τ : am_T} {Q : am_Q} {x1 x2 x3 : Value} {v : Nat} : AW d 279 1051 [.ref v, x1, x2, x3] (st) σ ρ g τ Q = AW d 279 1052 [.ref v, x1, x2, x3] (.ref v :: st) σ ρ g τ Q := aw_lc m279 d279_1051 rfl rfl rfl
theorem d279_1052 : decode cL_law 1052 = .ok (.iload_n 3, 1) := by decide +kernel
theorem s279_1052 {d : Nat} {st : List Value} {σ : am_I} {ρ : am_R} {g : am_J} {τ : am_T} {Q : am_Q} {x0 x1 x2 : Value} {v : Int32} : AW d 279 1052 [x0, x1, x2, .int v] (st) σ ρ g τ Q = AW d 279 1053 [x0, x1, x2, .int v] (.int v :: st) σ ρ g τ Q := aw_lc m279 d279_1052 rfl rfl rfl
theorem d279_1053 : decode cL_law 1053 = .ok (.iconst 3, 1) := by decide +kernel
theorem s279_1053 {d : Nat} {st : List Value} {σ : am_I} {ρ : am_R} {g : am_J} {τ : am_T} {Q : am_Q} {x0 x1 x2 x3 : Value} : AW d 279 1053 [x0, x1, x2, x3] (st) σ ρ g τ Q = AW d 279 1054 [x0, x1, x2, x3] (.int 3 :: st) σ ρ g τ Q := aw_lc m279 d279_1053 rfl rfl rfl
theorem d279_1054 : decode cL_law 1054 = .ok (.iadd, 1) := by decide +kernel
theorem s279_1054 {d : Nat} {st : List Value} {σ : am_I} {ρ : am_R} {g : am_J} {τ : am_T} {Q : am_Q} {x0 x1 x2 x3 : Value} {v w : Int32} : AW d 279 1054 [x0, x1, x2, x3] (.int w :: .int v :: st) σ ρ g τ Q = AW d 279 1055 [x0, x1, x2, x3] (.int (v + w) :: st) σ ρ g τ Q := aw_lc m279 d279_1054 rfl rfl rfl
theorem d279_1055 : decode cL_law 1055 = .ok (.iaload, 1) := by decide +kernel
theorem s279_1055 {d : Nat} {st : List Value} {σ : am_I} {ρ : am_R} {g : am_J} {τ : am_T} {Q : am_Q} {x0 x1 x2 x3 : Value} {a : Nat} {j : Int32} (ht : τ.1 a = 15) (hj : am_inb j (τ.2.1 a) = true) : AW d 279 1055 [x0, x1, x2, x3] (.int j :: .ref a :: st) σ ρ g τ Q = AW d 279 1056 [x0, x1, x2, x3] (.int (σ a j.toNatClampNeg) :: st) σ ρ g τ Q := aw_ial m279 d279_1055 rfl ht hj
theorem d279_1056 : decode cL_law 1056 = .ok (.invokevirtual 108, 3) := by decide +kernel
theorem s279_1056 {d : Nat} {st : List Value} {σ : am_I} {ρ : am_R} {g : am_J} {τ : am_T} {Q : am_Q} {x0 x1 x2 x3 : Value} {p0 : Nat} {p1 : Int32} {p2 : Int32} {p3 : Int32} (ht : τ.1 p0 = 12) (hs : st.length ≤ 4) : AW (d + 1) 279 1056 [x0, x1, x2, x3] (.int p3 :: .int p2 :: .int p1 :: .ref p0 :: st) σ ρ g τ Q = AW d 226 0 [.ref p0, .int p1, .int p2, .int p3] [] σ ρ g τ (fun r9 σ ρ g τ => AW (d + 1) 279 1059 [x0, x1, x2, x3] (r9.toList ++ st) σ ρ g τ Q) := aw_cv m279 d279_1056 rfl m226 rfl rfl (by decide) en226 ok226 rfl ht hs
theorem d279_1059 : decode cL_law 1059 = .ok (.if_icmp .eq 754, 3) := by decide +kernel
theorem s279_1059 {d : Nat} {st : List Value} {σ : am_I} {ρ : am_R} {g : am_J} {τ : am_T} {Q : am_Q} {x0 x1 x2 x3 : Value} {v w : Int32} : AW d 279 1059 [x0, x1, x2, x3] (.int w :: .int v :: st) σ ρ g τ Q = if v = w then AW d 279 1813 [x0, x1, x2, x3] (st) σ ρ g τ Q else AW d 279 1062 [x0, x1, x2, x3] (st) σ ρ g τ Q := aw_br m279 d279_1059 rfl rfl rfl
theorem d279_1062 : decode cL_law 1062 = .ok (.iconst 0, 1) := by decide +kernel
theorem s279_1062 {d : Nat} {st : List Value} {σ : am_I} {ρ : am_R} {g : am_J} {τ : am_T} {Q : am_Q} {x0 x1 x2 x3 : Value} : AW d 279 1062 [x0, x1, x2, x3] (st) σ ρ g τ Q = AW d 279 1063 [x0, x1, x2, x3] (.int 0 :: st) σ ρ g τ Q := aw_lc m279 d279_1062 rfl rfl rfl
theorem d279_1063 : decode cL_law 1063 = .ok (.ireturn, 1) := by decide +kernel
theorem s279_1063 {d : Nat} {σ : am_I} {ρ : am_R} {g : am_J} {τ : am_T} {Q : am_Q} {x0 x1 x2 x3 : Value} {v : Int32} (hv : am_b01 v = true) : AW d 279 1063 [x0, x1, x2, x3] ([.int v]) σ ρ g τ Q = Q (some (.int v)) σ ρ g τ := aw_rz m279 d279_1063 rfl hv
theorem d279_1064 : decode cL_law 1064 = .ok (.aload_n 1, 1) := by decide +kernel
theorem s279_1064 {d : Nat} {st : List Value} {σ : am_I} {ρ : am_R} {g : am_J} {τ : am_T} {Q : am_Q} {x0 x2 x3 : Value} {v : Nat} : AW d 279 1064 [x0, .ref v, x2, x3] (st) σ ρ g τ Q = AW d 279 1065 [x0, .ref v, x2, x3] (.ref v :: st) σ ρ g τ Q := aw_lc m279 d279_1064 rfl rfl rfl
theorem d279_1065 : decode cL_law 1065 = .ok (.aload_n 0, 1) := by decide +kernel
theorem s279_1065 {d : Nat} {st : List Value} {σ : am_I} {ρ : am_R} {g : am_J} {τ : am_T} {Q : am_Q} {x1 x2 x3 : Value} {v : Nat} : AW d 279 1065 [.ref v, x1, x2, x3] (st) σ ρ g τ Q = AW d 279 1066 [.ref v, x1, x2, x3] (.ref v :: st) σ ρ g τ Q := aw_lc m279 d279_1065 rfl rfl rfl
theorem d279_1066 : decode cL_law 1066 = .ok (.iload_n 3, 1) := by decide +kernel
theorem s279_1066 {d : Nat} {st : List Value} {σ : am_I} {ρ : am_R} {g : am_J} {τ : am_T} {Q : am_Q} {x0 x1 x2 : Value} {v : Int32} : AW d 279 1066 [x0, x1, x2, .int v] (st) σ ρ g τ Q = AW d 279 1067 [x0, x1, x2, .int v] (.int v :: st) σ ρ g τ Q := aw_lc m279 d279_1066 rfl rfl rfl
theorem d279_1067 : decode cL_law 1067 = .ok (.iconst 1, 1) := by decide +kernel
theorem s279_1067 {d : Nat} {st : List Value} {σ : am_I} {ρ : am_R} {g : am_J} {τ : am_T} {Q : am_Q} {x0 x1 x2 x3 : Value} : AW d 279 1067 [x0, x1, x2, x3] (st) σ ρ g τ Q = AW d 279 1068 [x0, x1, x2, x3] (.int 1 :: st) σ ρ g τ Q := aw_lc m279 d279_1067 rfl rfl rfl
theorem d279_1068 : decode cL_law 1068 = .ok (.iadd, 1) := by decide +kernel
theorem s279_1068 {d : Nat} {st : List Value} {σ : am_I} {ρ : am_R} {g : am_J} {τ : am_T} {Q : am_Q} {x0 x1 x2 x3 : Value} {v w : Int32} : AW d 279 1068 [x0, x1, x2, x3] (.int w :: .int v :: st) σ ρ g τ Q = AW d 279 1069 [x0, x1, x2, x3] (.int (v + w) :: st) σ ρ g τ Q := aw_lc m279 d279_1068 rfl rfl rfl
theorem d279_1069 : decode cL_law 1069 = .ok (.iaload, 1) := by decide +kernel
theorem s279_1069 {d : Nat} {st : List Value} {σ : am_I} {ρ : am_R} {g : am_J} {τ : am_T} {Q : am_Q} {x0 x1 x2 x3 : Value} {a : Nat} {j : Int32} (ht : τ.1 a = 15) (hj : am_inb j (τ.2.1 a) = true) : AW d 279 1069 [x0, x1, x2, x3] (.int j :: .ref a :: st) σ ρ g τ Q = AW d 279 1070 [x0, x1, x2, x3] (.int (σ a j.toNatClampNeg) :: st) σ ρ g τ Q := aw_ial m279 d279_1069 rfl ht hj
theorem d279_1070 : decode cL_law 1070 = .ok (.aload_n 0, 1) := by decide +kernel
theorem s279_1070 {d : Nat} {st : List Value} {σ : am_I} {ρ : am_R} {g : am_J} {τ : am_T} {Q : am_Q} {x1 x2 x3 : Value} {v : Nat} : AW d 279 1070 [.ref v, x1, x2, x3] (st) σ ρ g τ Q = AW d 279 1071 [.ref v, x1, x2, x3] (.ref v :: st) σ ρ g τ Q := aw_lc m279 d279_1070 rfl rfl rfl
theorem d279_1071 : decode cL_law 1071 = .ok (.iload_n 3, 1) := by decide +kernel
theorem s279_1071 {d : Nat} {st : List Value} {σ : am_I} {ρ : am_R} {g : am_J} {τ : am_T} {Q : am_Q} {x0 x1 x2 : Value} {v : Int32} : AW d 279 1071 [x0, x1, x2, .int v] (st) σ ρ g τ Q = AW d 279 1072 [x0, x1, x2, .int v] (.int v :: st) σ ρ g τ Q := aw_lc m279 d279_1071 rfl rfl rfl
theorem d279_1072 : decode cL_law 1072 = .ok (.iconst 2, 1) := by decide +kernel
theorem s279_1072 {d : Nat} {st : List Value} {σ : am_I} {ρ : am_R} {g : am_J} {τ : am_T} {Q : am_Q} {x0 x1 x2 x3 : Value} : AW d 279 1072 [x0, x1, x2, x3] (st) σ ρ g τ Q = AW d 279 1073 [x0, x1, x2, x3] (.int 2 :: st) σ ρ g τ Q := aw_lc m279 d279_1072 rfl rfl rfl
theorem d279_1073 : decode cL_law 1073 = .ok (.iadd, 1) := by decide +kernel
theorem s279_1073 {d : Nat} {st : List Value} {σ : am_I} {ρ : am_R} {g : am_J} {τ : am_T} {Q : am_Q} {x0 x1 x2 x3 : Value} {v w : Int32} : AW d 279 1073 [x0, x1, x2, x3] (.int w :: .int v :: st) σ ρ g τ Q = AW d 279 1074 [x0, x1, x2, x3] (.int (v + w) :: st) σ ρ g τ Q := aw_lc m279 d279_1073 rfl rfl rfl
theorem d279_1074 : decode cL_law 1074 = .ok (.iaload, 1) := by decide +kernel
theorem s279_1074 {d : Nat} {st : List Value} {σ : am_I} {ρ : am_R} {g : am_J} {τ : am_T} {Q : am_Q} {x0 x1 x2 x3 : Value} {a : Nat} {j : Int32} (ht : τ.1 a = 15) (hj : am_inb j (τ.2.1 a) = true) : AW d 279 1074 [x0, x1, x2, x3] (.int j :: .ref a :: st) σ ρ g τ Q = AW d 279 1075 [x0, x1, x2, x3] (.int (σ a j.toNatClampNeg) :: st) σ ρ g τ Q := aw_ial m279 d279_1074 rfl ht hj
theorem d279_1075 : decode cL_law 1075 = .ok (.invokevirtual 109, 3) := by decide +kernel
theorem s279_1075 {d : Nat} {st : List Value} {σ : am_I} {ρ : am_R} {g : am_J} {τ : am_T} {Q : am_Q} {x0 x1 x2 x3 : Value} {p0 : Nat} {p1 : Int32} {p2 : Int32} (ht : τ.1 p0 = 11) (hs : st.length ≤ 4) : AW (d + 1) 279 1075 [x0, x1, x2, x3] (.int p2 :: .int p1 :: .ref p0 :: st) σ ρ g τ Q = AW d 134 0 [.ref p0, .int p1, .int p2, am_jk, am_jk, am_jk] [] σ ρ g τ (fun r9 σ ρ g τ => AW (d + 1) 279 1078 [x0, x1, x2, x3] (r9.toList ++ st) σ ρ g τ Q) := aw_cv m279 d279_1075 rfl m134 rfl rfl (by decide) en134 ok134 rfl ht hs
theorem d279_1078 : decode cL_law 1078 = .ok (.aload_n 2, 1) := by decide +kernel
theorem s279_1078 {d : Nat} {st : List Value} {σ : am_I} {ρ : am_R} {g : am_J} {τ : am_T} {Q : am_Q} {x0 x1 x3 : Value} {v : Nat} : AW d 279 1078 [x0, x1, .ref v, x3] (st) σ ρ g τ Q = AW d 279 1079 [x0, x1, .ref v, x3] (.ref v :: st) σ ρ g τ Q := aw_lc m279 d279_1078 rfl rfl rfl
theorem d279_1079 : decode cL_law 1079 = .ok (.aload_n 0, 1) := by decide +kernel
theorem s279_1079 {d : Nat} {st : List Value} {σ : am_I} {ρ : am_R} {g : am_J} {τ : am_T} {Q : am_Q} {x1 x2 x3 : Value} {v : Nat} : AW d 279 1079 [.ref v, x1, x2, x3] (st) σ ρ g τ Q = AW d 279 1080 [.ref v, x1, x2, x3] (.ref v :: st) σ ρ g τ Q := aw_lc m279 d279_1079 rfl rfl rfl
theorem d279_1080 : decode cL_law 1080 = .ok (.iload_n 3, 1) := by decide +kernel
theorem s279_1080 {d : Nat} {st : List Value} {σ : am_I} {ρ : am_R} {g : am_J} {τ : am_T} {Q : am_Q} {x0 x1 x2 : Value} {v : Int32} : AW d 279 1080 [x0, x1, x2, .int v] (st) σ ρ g τ Q = AW d 279 1081 [x0, x1, x2, .int v] (.int v :: st) σ ρ g τ Q := aw_lc m279 d279_1080 rfl rfl rfl
theorem d279_1081 : decode cL_law 1081 = .ok (.iconst 1, 1) := by decide +kernel
theorem s279_1081 {d : Nat} {st : List Value} {σ : am_I} {ρ : am_R} {g : am_J} {τ : am_T} {Q : am_Q} {x0 x1 x2 x3 : Value} : AW d 279 1081 [x0, x1, x2, x3] (st) σ ρ g τ Q = AW d 279 1082 [x0, x1, x2, x3] (.int 1 :: st) σ ρ g τ Q := aw_lc m279 d279_1081 rfl rfl rfl
theorem d279_1082 : decode cL_law 1082 = .ok (.iadd, 1) := by decide +kernel
theorem s279_1082 {d : Nat} {st : List Value} {σ : am_I} {ρ : am_R} {g : am_J} {τ : am_T} {Q : am_Q} {x0 x1 x2 x3 : Value} {v w : Int32} : AW d 279 1082 [x0, x1, x2, x3] (.int w :: .int v :: st) σ ρ g τ Q = AW d 279 1083 [x0, x1, x2, x3] (.int (v + w) :: st) σ ρ g τ Q := aw_lc m279 d279_1082 rfl rfl rfl
theorem d279_1083 : decode cL_law 1083 = .ok (.iaload, 1) := by decide +kernel
theorem s279_1083 {d : Nat} {st : List Value} {σ : am_I} {ρ : am_R} {g : am_J} {τ : am_T} {Q : am_Q} {x0 x1 x2 x3 : Value} {a : Nat} {j : Int32} (ht : τ.1 a = 15) (hj : am_inb j (τ.2.1 a) = true) : AW d 279 1083 [x0, x1, x2, x3] (.int j :: .ref a :: st) σ ρ g τ Q = AW d 279 1084 [x0, x1, x2, x3] (.int (σ a j.toNatClampNeg) :: st) σ ρ g τ Q := aw_ial m279 d279_1083 rfl ht hj
theorem d279_1084 : decode cL_law 1084 = .ok (.aload_n 0, 1) := by decide +kernel
theorem s279_1084 {d : Nat} {st : List Value} {σ : am_I} {ρ : am_R} {g : am_J} {τ : am_T} {Q : am_Q} {x1 x2 x3 : Value} {v : Nat} : AW d 279 1084 [.ref v, x1, x2, x3] (st) σ ρ g τ Q = AW d 279 1085 [.ref v, x1, x2, x3] (.ref v :: st) σ ρ g τ Q := aw_lc m279 d279_1084 rfl rfl rfl
theorem d279_1085 : decode cL_law 1085 = .ok (.iload_n 3, 1) := by decide +kernel
theorem s279_1085 {d : Nat} {st : List Value} {σ : am_I} {ρ : am_R} {g : am_J} {τ : am_T} {Q : am_Q} {x0 x1 x2 : Value} {v : Int32} : AW d 279 1085 [x0, x1, x2, .int v] (st) σ ρ g τ Q = AW d 279 1086 [x0, x1, x2, .int v] (.int v :: st) σ ρ g τ Q := aw_lc m279 d279_1085 rfl rfl rfl
theorem d279_1086 : decode cL_law 1086 = .ok (.iconst 2, 1) := by decide +kernel
theorem s279_1086 {d : Nat} {st : List Value} {σ : am_I} {ρ : am_R} {g : am_J} {τ : am_T} {Q : am_Q} {x0 x1 x2 x3 : Value} : AW d 279 1086 [x0, x1, x2, x3] (st) σ ρ g τ Q = AW d 279 1087 [x0, x1, x2, x3] (.int 2 :: st) σ ρ g τ Q := aw_lc m279 d279_1086 rfl rfl rfl
theorem d279_1087 : decode cL_law 1087 = .ok (.iadd, 1) := by decide +kernel
theorem s279_1087 {d : Nat} {st : List Value} {σ : am_I} {ρ : am_R} {g : am_J} {τ : am_T} {Q : am_Q} {x0 x1 x2 x3 : Value} {v w : Int32} : AW d 279 1087 [x0, x1, x2, x3] (.int w :: .int v :: st) σ ρ g τ Q = AW d 279 1088 [x0, x1, x2, x3] (.int (v + w) :: st) σ ρ g τ Q := aw_lc m279 d279_1087 rfl rfl rfl
theorem d279_1088 : decode cL_law 1088 = .ok (.iaload, 1) := by decide +kernel
theorem s279_1088 {d : Nat} {st : List Value} {σ : am_I} {ρ : am_R} {g : am_J} {τ : am_T} {Q : am_Q} {x0 x1 x2 x3 : Value} {a : Nat} {j : Int32} (ht : τ.1 a = 15) (hj : am_inb j (τ.2.1 a) = true) : AW d 279 1088 [x0, x1, x2, x3] (.int j :: .ref a :: st) σ ρ g τ Q = AW d 279 1089 [x0, x1, x2, x3] (.int (σ a j.toNatClampNeg) :: st) σ ρ g τ Q := aw_ial m279 d279_1088 rfl ht hj
theorem d279_1089 : decode cL_law 1089 = .ok (.invokevirtual 112, 3) := by decide +kernel
theorem s279_1089 {d : Nat} {st : List Value} {σ : am_I} {ρ : am_R} {g : am_J} {τ : am_T} {Q : am_Q} {x0 x1 x2 x3 : Value} {p0 : Nat} {p1 : Int32} {p2 : Int32} (ht : τ.1 p0 = 12) (hs : st.length ≤ 4) : AW (d + 1) 279 1089 [x0, x1, x2, x3] (.int p2 :: .int p1 :: .ref p0 :: st) σ ρ g τ Q = AW d 227 0 [.ref p0, .int p1, .int p2, am_jk] [] σ ρ g τ (fun r9 σ ρ g τ => AW (d + 1) 279 1092 [x0, x1, x2, x3] (r9.toList ++ st) σ ρ g τ Q) := aw_cv m279 d279_1089 rfl m227 rfl rfl (by decide) en227 ok227 rfl ht hs
theorem d279_1092 : decode cL_law 1092 = .ok (.if_icmp .eq 721, 3) := by decide +kernel
theorem s279_1092 {d : Nat} {st : List Value} {σ : am_I} {ρ : am_R} {g : am_J} {τ : am_T} {Q : am_Q} {x0 x1 x2 x3 : Value} {v w : Int32} : AW d 279 1092 [x0, x1, x2, x3] (.int w :: .int v :: st) σ ρ g τ Q = if v = w then AW d 279 1813 [x0, x1, x2, x3] (st) σ ρ g τ Q else AW d 279 1095 [x0, x1, x2, x3] (st) σ ρ g τ Q := aw_br m279 d279_1092 rfl rfl rfl
theorem d279_1095 : decode cL_law 1095 = .ok (.iconst 0, 1) := by decide +kernel
theorem s279_1095 {d : Nat} {st : List Value} {σ : am_I} {ρ : am_R} {g : am_J} {τ : am_T} {Q : am_Q} {x0 x1 x2 x3 : Value} : AW d 279 1095 [x0, x1, x2, x3] (st) σ ρ g τ Q = AW d 279 1096 [x0, x1, x2, x3] (.int 0 :: st) σ ρ g τ Q := aw_lc m279 d279_1095 rfl rfl rfl
theorem d279_1096 : decode cL_law 1096 = .ok (.ireturn, 1) := by decide +kernel
theorem s279_1096 {d : Nat} {σ : am_I} {ρ : am_R} {g : am_J} {τ : am_T} {Q : am_Q} {x0 x1 x2 x3 : Value} {v : Int32} (hv : am_b01 v = true) : AW d 279 1096 [x0, x1, x2, x3] ([.int v]) σ ρ g τ Q = Q (some (.int v)) σ ρ g τ := aw_rz m279 d279_1096 rfl hv
theorem d279_1097 : decode cL_law 1097 = .ok (.aload_n 1, 1) := by decide +kernel
theorem s279_1097 {d : Nat} {st : List Value} {σ : am_I} {ρ : am_R} {g : am_J} {τ : am_T} {Q : am_Q} {x0 x2 x3 : Value} {v : Nat} : AW d 279 1097 [x0, .ref v, x2, x3] (st) σ ρ g τ Q = AW d 279 1098 [x0, .ref v, x2, x3] (.ref v :: st) σ ρ g τ Q := aw_lc m279 d279_1097 rfl rfl rfl
theorem d279_1098 : decode cL_law 1098 = .ok (.aload_n 0, 1) := by decide +kernel
theorem s279_1098 {d : Nat} {st : List Value} {σ : am_I} {ρ : am_R} {g : am_J} {τ : am_T} {Q : am_Q} {x1 x2 x3 : Value} {v : Nat} : AW d 279 1098 [.ref v, x1, x2, x3] (st) σ ρ g τ Q = AW d 279 1099 [.ref v, x1, x2, x3] (.ref v :: st) σ ρ g τ Q := aw_lc m279 d279_1098 rfl rfl rfl
theorem d279_1099 : decode cL_law 1099 = .ok (.iload_n 3, 1) := by decide +kernel
theorem s279_1099 {d : Nat} {st : List Value} {σ : am_I} {ρ : am_R} {g : am_J} {τ : am_T} {Q : am_Q} {x0 x1 x2 : Value} {v : Int32} : AW d 279 1099 [x0, x1, x2, .int v] (st) σ ρ g τ Q = AW d 279 1100 [x0, x1, x2, .int v] (.int v :: st) σ ρ g τ Q := aw_lc m279 d279_1099 rfl rfl rfl
theorem d279_1100 : decode cL_law 1100 = .ok (.iconst 1, 1) := by decide +kernel
theorem s279_1100 {d : Nat} {st : List Value} {σ : am_I} {ρ : am_R} {g : am_J} {τ : am_T} {Q : am_Q} {x0 x1 x2 x3 : Value} : AW d 279 1100 [x0, x1, x2, x3] (st) σ ρ g τ Q = AW d 279 1101 [x0, x1, x2, x3] (.int 1 :: st) σ ρ g τ Q := aw_lc m279 d279_1100 rfl rfl rfl
theorem d279_1101 : decode cL_law 1101 = .ok (.iadd, 1) := by decide +kernel
theorem s279_1101 {d : Nat} {st : List Value} {σ : am_I} {ρ : am_R} {g : am_J} {τ : am_T} {Q : am_Q} {x0 x1 x2 x3 : Value} {v w : Int32} : AW d 279 1101 [x0, x1, x2, x3] (.int w :: .int v :: st) σ ρ g τ Q = AW d 279 1102 [x0, x1, x2, x3] (.int (v + w) :: st) σ ρ g τ Q := aw_lc m279 d279_1101 rfl rfl rfl
theorem d279_1102 : decode cL_law 1102 = .ok (.iaload, 1) := by decide +kernel
theorem s279_1102 {d : Nat} {st : List Value} {σ : am_I} {ρ : am_R} {g : am_J} {τ : am_T} {Q : am_Q} {x0 x1 x2 x3 : Value} {a : Nat} {j : Int32} (ht : τ.1 a = 15) (hj : am_inb j (τ.2.1 a) = true) : AW d 279 1102 [x0, x1, x2, x3] (.int j :: .ref a :: st) σ ρ g τ Q = AW d 279 1103 [x0, x1, x2, x3] (.int (σ a j.toNatClampNeg) :: st) σ ρ g τ Q := aw_ial m279 d279_1102 rfl ht hj
theorem d279_1103 : decode cL_law 1103 = .ok (.aload_n 0, 1) := by decide +kernel
theorem s279_1103 {d : Nat} {st : List Value} {σ : am_I} {ρ : am_R} {g : am_J} {τ : am_T} {Q : am_Q} {x1 x2 x3 : Value} {v : Nat} : AW d 279 1103 [.ref v, x1, x2, x3] (st) σ ρ g τ Q = AW d 279 1104 [.ref v, x1, x2, x3] (.ref v :: st) σ ρ g τ Q := aw_lc m279 d279_1103 rfl rfl rfl
theorem d279_1104 : decode cL_law 1104 = .ok (.iload_n 3, 1) := by decide +kernel
theorem s279_1104 {d : Nat} {st : List Value} {σ : am_I} {ρ : am_R} {g : am_J} {τ : am_T} {Q : am_Q} {x0 x1 x2 : Value} {v : Int32} : AW d 279 1104 [x0, x1, x2, .int v] (st) σ ρ g τ Q = AW d 279 1105 [x0, x1, x2, .int v] (.int v :: st) σ ρ g τ Q := aw_lc m279 d279_1104 rfl rfl rfl
theorem d279_1105 : decode cL_law 1105 = .ok (.iconst 2, 1) := by decide +kernel
theorem s279_1105 {d : Nat} {st : List Value} {σ : am_I} {ρ : am_R} {g : am_J} {τ : am_T} {Q : am_Q} {x0 x1 x2 x3 : Value} : AW d 279 1105 [x0, x1, x2, x3] (st) σ ρ g τ Q = AW d 279 1106 [x0, x1, x2, x3] (.int 2 :: st) σ ρ g τ Q := aw_lc m279 d279_1105 rfl rfl rfl
theorem d279_1106 : decode cL_law 1106 = .ok (.iadd, 1) := by decide +kernel
theorem s279_1106 {d : Nat} {st : List Value} {σ : am_I} {ρ : am_R} {g : am_J} {τ : am_T} {Q : am_Q} {x0 x1 x2 x3 : Value} {v w : Int32} : AW d 279 1106 [x0, x1, x2, x3] (.int w :: .int v :: st) σ ρ g τ Q = AW d 279 1107 [x0, x1, x2, x3] (.int (v + w) :: st) σ ρ g τ Q := aw_lc m279 d279_1106 rfl rfl rfl
theorem d279_1107 : decode cL_law 1107 = .ok (.iaload, 1) := by decide +kernel
theorem s279_1107 {d : Nat} {st : List Value} {σ : am_I} {ρ : am_R} {g : am_J} {τ : am_T} {Q : am_Q} {x0 x1 x2 x3 : Value} {a : Nat} {j : Int32} (ht : τ.1 a = 15) (hj : am_inb j (τ.2.1 a) = true) : AW d 279 1107 [x0, x1, x2, x3] (.int j :: .ref a :: st) σ ρ g τ Q = AW d 279 1108 [x0, x1, x2, x3] (.int (σ a j.toNatClampNeg) :: st) σ ρ g τ Q := aw_ial m279 d279_1107 rfl ht hj
theorem d279_1108 : decode cL_law 1108 = .ok (.aload_n 0, 1) := by decide +kernel
theorem s279_1108 {d : Nat} {st : List Value} {σ : am_I} {ρ : am_R} {g : am_J} {τ : am_T} {Q : am_Q} {x1 x2 x3 : Value} {v : Nat} : AW d 279 1108 [.ref v, x1, x2, x3] (st) σ ρ g τ Q = AW d 279 1109 [.ref v, x1, x2, x3] (.ref v :: st) σ ρ g τ Q := aw_lc m279 d279_1108 rfl rfl rfl
theorem d279_1109 : decode cL_law 1109 = .ok (.iload_n 3, 1) := by decide +kernel
theorem s279_1109 {d : Nat} {st : List Value} {σ : am_I} {ρ : am_R} {g : am_J} {τ : am_T} {Q : am_Q} {x0 x1 x2 : Value} {v : Int32} : AW d 279 1109 [x0, x1, x2, .int v] (st) σ ρ g τ Q = AW d 279 1110 [x0, x1, x2, .int v] (.int v :: st) σ ρ g τ Q := aw_lc m279 d279_1109 rfl rfl rfl
theorem d279_1110 : decode cL_law 1110 = .ok (.iconst 3, 1) := by decide +kernel
theorem s279_1110 {d : Nat} {st : List Value} {σ : am_I} {ρ : am_R} {g : am_J} {τ : am_T} {Q : am_Q} {x0 x1 x2 x3 : Value} : AW d 279 1110 [x0, x1, x2, x3] (st) σ ρ g τ Q = AW d 279 1111 [x0, x1, x2, x3] (.int 3 :: st) σ ρ g τ Q := aw_lc m279 d279_1110 rfl rfl rfl
theorem d279_1111 : decode cL_law 1111 = .ok (.iadd, 1) := by decide +kernel
theorem s279_1111 {d : Nat} {st : List Value} {σ : am_I} {ρ : am_R} {g : am_J} {τ : am_T} {Q : am_Q} {x0 x1 x2 x3 : Value} {v w : Int32} : AW d 279 1111 [x0, x1, x2, x3] (.int w :: .int v :: st) σ ρ g τ Q = AW d 279 1112 [x0, x1, x2, x3] (.int (v + w) :: st) σ ρ g τ Q := aw_lc m279 d279_1111 rfl rfl rfl
theorem d279_1112 : decode cL_law 1112 = .ok (.iaload, 1) := by decide +kernel
theorem s279_1112 {d : Nat} {st : List Value} {σ : am_I} {ρ : am_R} {g : am_J} {τ : am_T} {Q : am_Q} {x0 x1 x2 x3 : Value} {a : Nat} {j : Int32} (ht : τ.1 a = 15) (hj : am_inb j (τ.2.1 a) = true) : AW d 279 1112 [x0, x1, x2, x3] (.int j :: .ref a :: st) σ ρ g τ Q = AW d 279 1113 [x0, x1, x2, x3] (.int (σ a j.toNatClampNeg) :: st) σ ρ g τ Q := aw_ial m279 d279_1112 rfl ht hj
theorem d279_1113 : decode cL_law 1113 = .ok (.invokevirtual 113, 3) := by decide +kernel
theorem s279_1113 {d : Nat} {st : List Value} {σ : am_I} {ρ : am_R} {g : am_J} {τ : am_T} {Q : am_Q} {x0 x1 x2 x3 : Value} {p0 : Nat} {p1 : Int32} {p2 : Int32} {p3 : Int32} (ht : τ.1 p0 = 11) (hs : st.length ≤ 4) : AW (d + 1) 279 1113 [x0, x1, x2, x3] (.int p3 :: .int p2 :: .int p1 :: .ref p0 :: st) σ ρ g τ Q = AW d 135 0 [.ref p0, .int p1, .int p2, .int p3, am_jk] [] σ ρ g τ (fun r9 σ ρ g τ => AW (d + 1) 279 1116 [x0, x1, x2, x3] (r9.toList ++ st) σ ρ g τ Q) := aw_cv m279 d279_1113 rfl m135 rfl rfl (by decide) en135 ok135 rfl ht hs
theorem d279_1116 : decode cL_law 1116 = .ok (.aload_n 2, 1) := by decide +kernel
theorem s279_1116 {d : Nat} {st : List Value} {σ : am_I} {ρ : am_R} {g : am_J} {τ : am_T} {Q : am_Q} {x0 x1 x3 : Value} {v : Nat} : AW d 279 1116 [x0, x1, .ref v, x3] (st) σ ρ g τ Q = AW d 279 1117 [x0, x1, .ref v, x3] (.ref v :: st) σ ρ g τ Q := aw_lc m279 d279_1116 rfl rfl rfl
theorem d279_1117 : decode cL_law 1117 = .ok (.aload_n 0, 1) := by decide +kernel
theorem s279_1117 {d : Nat} {st : List Value} {σ : am_I} {ρ : am_R} {g : am_J} {τ : am_T} {Q : am_Q} {x1 x2 x3 : Value} {v : Nat} : AW d 279 1117 [.ref v, x1, x2, x3] (st) σ ρ g τ Q = AW d 279 1118 [.ref v, x1, x2, x3] (.ref v :: st) σ ρ g τ Q := aw_lc m279 d279_1117 rfl rfl rfl
theorem d279_1118 : decode cL_law 1118 = .ok (.iload_n 3, 1) := by decide +kernel
theorem s279_1118 {d : Nat} {st : List Value} {σ : am_I} {ρ : am_R} {g : am_J} {τ : am_T} {Q : am_Q} {x0 x1 x2 : Value} {v : Int32} : AW d 279 1118 [x0, x1, x2, .int v] (st) σ ρ g τ Q = AW d 279 1119 [x0, x1, x2, .int v] (.int v :: st) σ ρ g τ Q := aw_lc m279 d279_1118 rfl rfl rfl
theorem d279_1119 : decode cL_law 1119 = .ok (.iconst 1, 1) := by decide +kernel
theorem s279_1119 {d : Nat} {st : List Value} {σ : am_I} {ρ : am_R} {g : am_J} {τ : am_T} {Q : am_Q} {x0 x1 x2 x3 : Value} : AW d 279 1119 [x0, x1, x2, x3] (st) σ ρ g τ Q = AW d 279 1120 [x0, x1, x2, x3] (.int 1 :: st) σ ρ g τ Q := aw_lc m279 d279_1119 rfl rfl rfl
theorem d279_1120 : decode cL_law 1120 = .ok (.iadd, 1) := by decide +kernel
theorem s279_1120 {d : Nat} {st : List Value} {σ : am_I} {ρ : am_R} {g : am_J} {τ : am_T} {Q : am_Q} {x0 x1 x2 x3 : Value} {v w : Int32} : AW d 279 1120 [x0, x1, x2, x3] (.int w :: .int v :: st) σ ρ g τ Q = AW d 279 1121 [x0, x1, x2, x3] (.int (v + w) :: st) σ ρ g τ Q := aw_lc m279 d279_1120 rfl rfl rfl
theorem d279_1121 : decode cL_law 1121 = .ok (.iaload, 1) := by decide +kernel
theorem s279_1121 {d : Nat} {st : List Value} {σ : am_I} {ρ : am_R} {g : am_J} {τ : am_T} {Q : am_Q} {x0 x1 x2 x3 : Value} {a : Nat} {j : Int32} (ht : τ.1 a = 15) (hj : am_inb j (τ.2.1 a) = true) : AW d 279 1121 [x0, x1, x2, x3] (.int j :: .ref a :: st) σ ρ g τ Q = AW d 279 1122 [x0, x1, x2, x3] (.int (σ a j.toNatClampNeg) :: st) σ ρ g τ Q := aw_ial m279 d279_1121 rfl ht hj
theorem d279_1122 : decode cL_law 1122 = .ok (.aload_n 0, 1) := by decide +kernel
theorem s279_1122 {d : Nat} {st : List Value} {σ : am_I} {ρ : am_R} {g : am_J} {τ : am_T} {Q : am_Q} {x1 x2 x3 : Value} {v : Nat} : AW d 279 1122 [.ref v, x1, x2, x3] (st) σ ρ g τ Q = AW d 279 1123 [.ref v, x1, x2, x3] (.ref v :: st) σ ρ g τ Q := aw_lc m279 d279_1122 rfl rfl rfl
theorem d279_1123 : decode cL_law 1123 = .ok (.iload_n 3, 1) := by decide +kernel
theorem s279_1123 {d : Nat} {st : List Value} {σ : am_I} {ρ : am_R} {g : am_J} {τ : am_T} {Q : am_Q} {x0 x1 x2 : Value} {v : Int32} : AW d 279 1123 [x0, x1, x2, .int v] (st) σ ρ g τ Q = AW d 279 1124 [x0, x1, x2, .int v] (.int v :: st) σ ρ g τ Q := aw_lc m279 d279_1123 rfl rfl rfl
theorem d279_1124 : decode cL_law 1124 = .ok (.iconst 2, 1) := by decide +kernel
theorem s279_1124 {d : Nat} {st : List Value} {σ : am_I} {ρ : am_R} {g : am_J} {τ : am_T} {Q : am_Q} {x0 x1 x2 x3 : Value} : AW d 279 1124 [x0, x1, x2, x3] (st) σ ρ g τ Q = AW d 279 1125 [x0, x1, x2, x3] (.int 2 :: st) σ ρ g τ Q := aw_lc m279 d279_1124 rfl rfl rfl
theorem d279_1125 : decode cL_law 1125 = .ok (.iadd, 1) := by decide +kernel
theorem s279_1125 {d : Nat} {st : List Value} {σ : am_I} {ρ : am_R} {g : am_J} {τ : am_T} {Q : am_Q} {x0 x1 x2 x3 : Value} {v w : Int32} : AW d 279 1125 [x0, x1, x2, x3] (.int w :: .int v :: st) σ ρ g τ Q = AW d 279 1126 [x0, x1, x2, x3] (.int (v + w) :: st) σ ρ g τ Q := aw_lc m279 d279_1125 rfl rfl rfl
theorem d279_1126 : decode cL_law 1126 = .ok (.iaload, 1) := by decide +kernel
theorem s279_1126 {d : Nat} {st : List Value} {σ : am_I} {ρ : am_R} {g : am_J} {τ : am_T} {Q : am_Q} {x0 x1 x2 x3 : Value} {a : Nat} {j : Int32} (ht : τ.1 a = 15) (hj : am_inb j (τ.2.1 a) = true) : AW d 279 1126 [x0, x1, x2, x3] (.int j :: .ref a :: st) σ ρ g τ Q = AW d 279 1127 [x0, x1, x2, x3] (.int (σ a j.toNatClampNeg) :: st) σ ρ g τ Q := aw_ial m279 d279_1126 rfl ht hj
theorem d279_1127 : decode cL_law 1127 = .ok (.aload_n 0, 1) := by decide +kernel
theorem s279_1127 {d : Nat} {st : List Value} {σ : am_I} {ρ : am_R} {g : am_J} {τ : am_T} {Q : am_Q} {x1 x2 x3 : Value} {v : Nat} : AW d 279 1127 [.ref v, x1, x2, x3] (st) σ ρ g τ Q = AW d 279 1128 [.ref v, x1, x2, x3] (.ref v :: st) σ ρ g τ Q := aw_lc m279 d279_1127 rfl rfl rfl
theorem d279_1128 : decode cL_law 1128 = .ok (.iload_n 3, 1) := by decide +kernel
theorem s279_1128 {d : Nat} {st : List Value} {σ : am_I} {ρ : am_R} {g : am_J} {τ : am_T} {Q : am_Q} {x0 x1 x2 : Value} {v : Int32} : AW d 279 1128 [x0, x1, x2, .int v] (st) σ ρ g τ Q = AW d 279 1129 [x0, x1, x2, .int v] (.int v :: st) σ ρ g τ Q := aw_lc m279 d279_1128 rfl rfl rfl
theorem d279_1129 : decode cL_law 1129 = .ok (.iconst 3, 1) := by decide +kernel
theorem s279_1129 {d : Nat} {st : List Value} {σ : am_I} {ρ : am_R} {g : am_J} {τ : am_T} {Q : am_Q} {x0 x1 x2 x3 : Value} : AW d 279 1129 [x0, x1, x2, x3] (st) σ ρ g τ Q = AW d 279 1130 [x0, x1, x2, x3] (.int 3 :: st) σ ρ g τ Q := aw_lc m279 d279_1129 rfl rfl rfl
theorem d279_1130 : decode cL_law 1130 = .ok (.iadd, 1) := by decide +kernel
theorem s279_1130 {d : Nat} {st : List Value} {σ : am_I} {ρ : am_R} {g : am_J} {τ : am_T} {Q : am_Q} {x0 x1 x2 x3 : Value} {v w : Int32} : AW d 279 1130 [x0, x1, x2, x3] (.int w :: .int v :: st) σ ρ g τ Q = AW d 279 1131 [x0, x1, x2, x3] (.int (v + w) :: st) σ ρ g τ Q := aw_lc m279 d279_1130 rfl rfl rfl
theorem d279_1131 : decode cL_law 1131 = .ok (.iaload, 1) := by decide +kernel
theorem s279_1131 {d : Nat} {st : List Value} {σ : am_I} {ρ : am_R} {g : am_J} {τ : am_T} {Q : am_Q} {x0 x1 x2 x3 : Value} {a : Nat} {j : Int32} (ht : τ.1 a = 15) (hj : am_inb j (τ.2.1 a) = true) : AW d 279 1131 [x0, x1, x2, x3] (.int j :: .ref a :: st) σ ρ g τ Q = AW d 279 1132 [x0, x1, x2, x3] (.int (σ a j.toNatClampNeg) :: st) σ ρ g τ Q := aw_ial m279 d279_1131 rfl ht hj
theorem d279_1132 : decode cL_law 1132 = .ok (.invokevirtual 116, 3) := by decide +kernel
theorem s279_1132 {d : Nat} {st : List Value} {σ : am_I} {ρ : am_R} {g : am_J} {τ : am_T} {Q : am_Q} {x0 x1 x2 x3 : Value} {p0 : Nat} {p1 : Int32} {p2 : Int32} {p3 : Int32} (ht : τ.1 p0 = 12) (hs : st.length ≤ 4) : AW (d + 1) 279 1132 [x0, x1, x2, x3] (.int p3 :: .int p2 :: .int p1 :: .ref p0 :: st) σ ρ g τ Q = AW d 228 0 [.ref p0, .int p1, .int p2, .int p3, am_jk] [] σ ρ g τ (fun r9 σ ρ g τ => AW (d + 1) 279 1135 [x0, x1, x2, x3] (r9.toList ++ st) σ ρ g τ Q) := aw_cv m279 d279_1132 rfl m228 rfl rfl (by decide) en228 ok228 rfl ht hs
theorem d279_1135 : decode cL_law 1135 = .ok (.if_icmp .eq 678, 3) := by decide +kernel
theorem s279_1135 {d : Nat} {st : List Value} {σ : am_I} {ρ : am_R} {g : am_J} {τ : am_T} {Q : am_Q} {x0 x1 x2 x3 : Value} {v w : Int32} : AW d 279 1135 [x0, x1, x2, x3] (.int w :: .int v :: st) σ ρ g τ Q = if v = w then AW d 279 1813 [x0, x1, x2, x3] (st) σ ρ g τ Q else AW d 279 1138 [x0, x1, x2, x3] (st) σ ρ g τ Q := aw_br m279 d279_1135 rfl rfl rfl
theorem d279_1138 : decode cL_law 1138 = .ok (.iconst 0, 1) := by decide +kernel
theorem s279_1138 {d : Nat} {st : List Value} {σ : am_I} {ρ : am_R} {g : am_J} {τ : am_T} {Q : am_Q} {x0 x1 x2 x3 : Value} : AW d 279 1138 [x0, x1, x2, x3] (st) σ ρ g τ Q = AW d 279 1139 [x0, x1, x2, x3] (.int 0 :: st) σ ρ g τ Q := aw_lc m279 d279_1138 rfl rfl rfl
theorem d279_1139 : decode cL_law 1139 = .ok (.ireturn, 1) := by decide +kernel
theorem s279_1139 {d : Nat} {σ : am_I} {ρ : am_R} {g : am_J} {τ : am_T} {Q : am_Q} {x0 x1 x2 x3 : Value} {v : Int32} (hv : am_b01 v = true) : AW d 279 1139 [x0, x1, x2, x3] ([.int v]) σ ρ g τ Q = Q (some (.int v)) σ ρ g τ := aw_rz m279 d279_1139 rfl hv
theorem d279_1140 : decode cL_law 1140 = .ok (.aload_n 1, 1) := by decide +kernel
theorem s279_1140 {d : Nat} {st : List Value} {σ : am_I} {ρ : am_R} {g : am_J} {τ : am_T} {Q : am_Q} {x0 x2 x3 : Value} {v : Nat} : AW d 279 1140 [x0, .ref v, x2, x3] (st) σ ρ g τ Q = AW d 279 1141 [x0, .ref v, x2, x3] (.ref v :: st) σ ρ g τ Q := aw_lc m279 d279_1140 rfl rfl rfl
theorem d279_1141 : decode cL_law 1141 = .ok (.aload_n 0, 1) := by decide +kernel
theorem s279_1141 {d : Nat} {st : List Value} {σ : am_I} {ρ : am_R} {g : am_J} {τ : am_T} {Q : am_Q} {x1 x2 x3 : Value} {v : Nat} : AW d 279 1141 [.ref v, x1, x2, x3] (st) σ ρ g τ Q = AW d 279 1142 [.ref v, x1, x2, x3] (.ref v :: st) σ ρ g τ Q := aw_lc m279 d279_1141 rfl rfl rfl
theorem d279_1142 : decode cL_law 1142 = .ok (.iload_n 3, 1) := by decide +kernel
theorem s279_1142 {d : Nat} {st : List Value} {σ : am_I} {ρ : am_R} {g : am_J} {τ : am_T} {Q : am_Q} {x0 x1 x2 : Value} {v : Int32} : AW d 279 1142 [x0, x1, x2, .int v] (st) σ ρ g τ Q = AW d 279 1143 [x0, x1, x2, .int v] (.int v :: st) σ ρ g τ Q := aw_lc m279 d279_1142 rfl rfl rfl
theorem d279_1143 : decode cL_law 1143 = .ok (.iconst 1, 1) := by decide +kernel
theorem s279_1143 {d : Nat} {st : List Value} {σ : am_I} {ρ : am_R} {g : am_J} {τ : am_T} {Q : am_Q} {x0 x1 x2 x3 : Value} : AW d 279 1143 [x0, x1, x2, x3] (st) σ ρ g τ Q = AW d 279 1144 [x0, x1, x2, x3] (.int 1 :: st) σ ρ g τ Q := aw_lc m279 d279_1143 rfl rfl rfl
theorem d279_1144 : decode cL_law 1144 = .ok (.iadd, 1) := by decide +kernel
theorem s279_1144 {d : Nat} {st : List Value} {σ : am_I} {ρ : am_R} {g : am_J} {τ : am_T} {Q : am_Q} {x0 x1 x2 x3 : Value} {v w : Int32} : AW d 279 1144 [x0, x1, x2, x3] (.int w :: .int v :: st) σ ρ g τ Q = AW d 279 1145 [x0, x1, x2, x3] (.int (v + w) :: st) σ ρ g τ Q := aw_lc m279 d279_1144 rfl rfl rfl
theorem d279_1145 : decode cL_law 1145 = .ok (.iaload, 1) := by decide +kernel
theorem s279_1145 {d : Nat} {st : List Value} {σ : am_I} {ρ : am_R} {g : am_J} {τ : am_T} {Q : am_Q} {x0 x1 x2 x3 : Value} {a : Nat} {j : Int32} (ht : τ.1 a = 15) (hj : am_inb j (τ.2.1 a) = true) : AW d 279 1145 [x0, x1, x2, x3] (.int j :: .ref a :: st) σ ρ g τ Q = AW d 279 1146 [x0, x1, x2, x3] (.int (σ a j.toNatClampNeg) :: st) σ ρ g τ Q := aw_ial m279 d279_1145 rfl ht hj
theorem d279_1146 : decode cL_law 1146 = .ok (.aload_n 0, 1) := by decide +kernel
theorem s279_1146 {d : Nat} {st : List Value} {σ : am_I} {ρ : am_R} {g : am_J} {τ : am_T} {Q : am_Q} {x1 x2 x3 : Value} {v : Nat} : AW d 279 1146 [.ref v, x1, x2, x3] (st) σ ρ g τ Q = AW d 279 1147 [.ref v, x1, x2, x3] (.ref v :: st) σ ρ g τ Q := aw_lc m279 d279_1146 rfl rfl rfl
theorem d279_1147 : decode cL_law 1147 = .ok (.iload_n 3, 1) := by decide +kernel
theorem s279_1147 {d : Nat} {st : List Value} {σ : am_I} {ρ : am_R} {g : am_J} {τ : am_T} {Q : am_Q} {x0 x1 x2 : Value} {v : Int32} : AW d 279 1147 [x0, x1, x2, .int v] (st) σ ρ g τ Q = AW d 279 1148 [x0, x1, x2, .int v] (.int v :: st) σ ρ g τ Q := aw_lc m279 d279_1147 rfl rfl rfl
theorem d279_1148 : decode cL_law 1148 = .ok (.iconst 2, 1) := by decide +kernel
theorem s279_1148 {d : Nat} {st : List Value} {σ : am_I} {ρ : am_R} {g : am_J} {τ : am_T} {Q : am_Q} {x0 x1 x2 x3 : Value} : AW d 279 1148 [x0, x1, x2, x3] (st) σ ρ g τ Q = AW d 279 1149 [x0, x1, x2, x3] (.int 2 :: st) σ ρ g τ Q := aw_lc m279 d279_1148 rfl rfl rfl
theorem d279_1149 : decode cL_law 1149 = .ok (.iadd, 1) := by decide +kernel
theorem s279_1149 {d : Nat} {st : List Value} {σ : am_I} {ρ : am_R} {g : am_J} {τ : am_T} {Q : am_Q} {x0 x1 x2 x3 : Value} {v w : Int32} : AW d 279 1149 [x0, x1, x2, x3] (.int w :: .int v :: st) σ ρ g τ Q = AW d 279 1150 [x0, x1, x2, x3] (.int (v + w) :: st) σ ρ g τ Q := aw_lc m279 d279_1149 rfl rfl rfl
theorem d279_1150 : decode cL_law 1150 = .ok (.iaload, 1) := by decide +kernel
theorem s279_1150 {d : Nat} {st : List Value} {σ : am_I} {ρ : am_R} {g : am_J} {τ : am_T} {Q : am_Q} {x0 x1 x2 x3 : Value} {a : Nat} {j : Int32} (ht : τ.1 a = 15) (hj : am_inb j (τ.2.1 a) = true) : AW d 279 1150 [x0, x1, x2, x3] (.int j :: .ref a :: st) σ ρ g τ Q = AW d 279 1151 [x0, x1, x2, x3] (.int (σ a j.toNatClampNeg) :: st) σ ρ g τ Q := aw_ial m279 d279_1150 rfl ht hj
theorem d279_1151 : decode cL_law 1151 = .ok (.invokevirtual 117, 3) := by decide +kernel
theorem s279_1151 {d : Nat} {st : List Value} {σ : am_I} {ρ : am_R} {g : am_J} {τ : am_T} {Q : am_Q} {x0 x1 x2 x3 : Value} {p0 : Nat} {p1 : Int32} {p2 : Int32} (ht : τ.1 p0 = 11) (hs : st.length ≤ 4) : AW (d + 1) 279 1151 [x0, x1, x2, x3] (.int p2 :: .int p1 :: .ref p0 :: st) σ ρ g τ Q = AW d 136 0 [.ref p0, .int p1, .int p2, am_jk, am_jk, am_jk, am_jk] [] σ ρ g τ (fun r9 σ ρ g τ => AW (d + 1) 279 1154 [x0, x1, x2, x3] (r9.toList ++ st) σ ρ g τ Q) := aw_cv m279 d279_1151 rfl m136 rfl rfl (by decide) en136 ok136 rfl ht hs
theorem d279_1154 : decode cL_law 1154 = .ok (.aload_n 2, 1) := by decide +kernel
theorem s279_1154 {d : Nat} {st : List Value} {σ : am_I} {ρ : am_R} {g : am_J} {τ : am_T} {Q : am_Q} {x0 x1 x3 : Value} {v : Nat} : AW d 279 1154 [x0, x1, .ref v, x3] (st) σ ρ g τ Q = AW d 279 1155 [x0, x1, .ref v, x3] (.ref v :: st) σ ρ g τ Q := aw_lc m279 d279_1154 rfl rfl rfl
theorem d279_1155 : decode cL_law 1155 = .ok (.aload_n 0, 1) := by decide +kernel
theorem s279_1155 {d : Nat} {st : List Value} {σ : am_I} {ρ : am_R} {g : am_J} {τ : am_T} {Q : am_Q} {x1 x2 x3 : Value} {v : Nat} : AW d 279 1155 [.ref v, x1, x2, x3] (st) σ ρ g τ Q = AW d 279 1156 [.ref v, x1, x2, x3] (.ref v :: st) σ ρ g τ Q := aw_lc m279 d279_1155 rfl rfl rfl
theorem d279_1156 : decode cL_law 1156 = .ok (.iload_n 3, 1) := by decide +kernel
theorem s279_1156 {d : Nat} {st : List Value} {σ : am_I} {ρ : am_R} {g : am_J} {τ : am_T} {Q : am_Q} {x0 x1 x2 : Value} {v : Int32} : AW d 279 1156 [x0, x1, x2, .int v] (st) σ ρ g τ Q = AW d 279 1157 [x0, x1, x2, .int v] (.int v :: st) σ ρ g τ Q := aw_lc m279 d279_1156 rfl rfl rfl
theorem d279_1157 : decode cL_law 1157 = .ok (.iconst 1, 1) := by decide +kernel
theorem s279_1157 {d : Nat} {st : List Value} {σ : am_I} {ρ : am_R} {g : am_J} {τ : am_T} {Q : am_Q} {x0 x1 x2 x3 : Value} : AW d 279 1157 [x0, x1, x2, x3] (st) σ ρ g τ Q = AW d 279 1158 [x0, x1, x2, x3] (.int 1 :: st) σ ρ g τ Q := aw_lc m279 d279_1157 rfl rfl rfl
theorem d279_1158 : decode cL_law 1158 = .ok (.iadd, 1) := by decide +kernel
theorem s279_1158 {d : Nat} {st : List Value} {σ : am_I} {ρ : am_R} {g : am_J} {τ : am_T} {Q : am_Q} {x0 x1 x2 x3 : Value} {v w : Int32} : AW d 279 1158 [x0, x1, x2, x3] (.int w :: .int v :: st) σ ρ g τ Q = AW d 279 1159 [x0, x1, x2, x3] (.int (v + w) :: st) σ ρ g τ Q := aw_lc m279 d279_1158 rfl rfl rfl
theorem d279_1159 : decode cL_law 1159 = .ok (.iaload, 1) := by decide +kernel
theorem s279_1159 {d : Nat} {st : List Value} {σ : am_I} {ρ : am_R} {g : am_J} {τ : am_T} {Q : am_Q} {x0 x1 x2 x3 : Value} {a : Nat} {j : Int32} (ht : τ.1 a = 15) (hj : am_inb j (τ.2.1 a) = true) : AW d 279 1159 [x0, x1, x2, x3] (.int j :: .ref a :: st) σ ρ g τ Q = AW d 279 1160 [x0, x1, x2, x3] (.int (σ a j.toNatClampNeg) :: st) σ ρ g τ Q := aw_ial m279 d279_1159 rfl ht hj
theorem d279_1160 : decode cL_law 1160 = .ok (.aload_n 0, 1) := by decide +kernel
theorem s279_1160 {d : Nat} {st : List Value} {σ : am_I} {ρ : am_R} {g : am_J} {τ : am_T} {Q : am_Q} {x1 x2 x3 : Value} {v : Nat} : AW d 279 1160 [.ref v, x1, x2, x3] (st) σ ρ g τ Q = AW d 279 1161 [.ref v, x1, x2, x3] (.ref v :: st) σ ρ g τ Q := aw_lc m279 d279_1160 rfl rfl rfl
theorem d279_1161 : decode cL_law 1161 = .ok (.iload_n 3, 1) := by decide +kernel
theorem s279_1161 {d : Nat} {st : List Value} {σ : am_I} {ρ : am_R} {g : am_J} {τ : am_T} {Q : am_Q} {x0 x1 x2 : Value} {v : Int32} : AW d 279 1161 [x0, x1, x2, .int v] (st) σ ρ g τ Q = AW d 279 1162 [x0, x1, x2, .int v] (.int v :: st) σ ρ g τ Q := aw_lc m279 d279_1161 rfl rfl rfl
theorem d279_1162 : decode cL_law 1162 = .ok (.iconst 2, 1) := by decide +kernel
theorem s279_1162 {d : Nat} {st : List Value} {σ : am_I} {ρ : am_R} {g : am_J} {τ : am_T} {Q : am_Q} {x0 x1 x2 x3 : Value} : AW d 279 1162 [x0, x1, x2, x3] (st) σ ρ g τ Q = AW d 279 1163 [x0, x1, x2, x3] (.int 2 :: st) σ ρ g τ Q := aw_lc m279 d279_1162 rfl rfl rfl
theorem d279_1163 : decode cL_law 1163 = .ok (.iadd, 1) := by decide +kernel
theorem s279_1163 {d : Nat} {st : List Value} {σ : am_I} {ρ : am_R} {g : am_J} {τ : am_T} {Q : am_Q} {x0 x1 x2 x3 : Value} {v w : Int32} : AW d 279 1163 [x0, x1, x2, x3] (.int w :: .int v :: st) σ ρ g τ Q = AW d 279 1164 [x0, x1, x2, x3] (.int (v + w) :: st) σ ρ g τ Q := aw_lc m279 d279_1163 rfl rfl rfl
theorem d279_1164 : decode cL_law 1164 = .ok (.iaload, 1) := by decide +kernel
theorem s279_1164 {d : Nat} {st : List Value} {σ : am_I} {ρ : am_R} {g : am_J} {τ : am_T} {Q : am_Q} {x0 x1 x2 x3 : Value} {a : Nat} {j : Int32} (ht : τ.1 a = 15) (hj : am_inb j (τ.2.1 a) = true) : AW d 279 1164 [x0, x1, x2, x3] (.int j :: .ref a :: st) σ ρ g τ Q = AW d 279 1165 [x0, x1, x2, x3] (.int (σ a j.toNatClampNeg) :: st) σ ρ g τ Q := aw_ial m279 d279_1164 rfl ht hj
theorem d279_1165 : decode cL_law 1165 = .ok (.invokevirtual 120, 3) := by decide +kernel
theorem s279_1165 {d : Nat} {st : List Value} {σ : am_I} {ρ : am_R} {g : am_J} {τ : am_T} {Q : am_Q} {x0 x1 x2 x3 : Value} {p0 : Nat} {p1 : Int32} {p2 : Int32} (ht : τ.1 p0 = 12) (hs : st.length ≤ 4) : AW (d + 1) 279 1165 [x0, x1, x2, x3] (.int p2 :: .int p1 :: .ref p0 :: st) σ ρ g τ Q = AW d 230 0 [.ref p0, .int p1, .int p2, am_jk] [] σ ρ g τ (fun r9 σ ρ g τ => AW (d + 1) 279 1168 [x0, x1, x2, x3] (r9.toList ++ st) σ ρ g τ Q) := aw_cv m279 d279_1165 rfl m230 rfl rfl (by decide) en230 ok230 rfl ht hs
theorem d279_1168 : decode cL_law 1168 = .ok (.if_icmp .eq 645, 3) := by decide +kernel
theorem s279_1168 {d : Nat} {st : List Value} {σ : am_I} {ρ : am_R} {g : am_J} {τ : am_T} {Q : am_Q} {x0 x1 x2 x3 : Value} {v w : Int32} : AW d 279 1168 [x0, x1, x2, x3] (.int w :: .int v :: st) σ ρ g τ Q = if v = w then AW d 279 1813 [x0, x1, x2, x3] (st) σ ρ g τ Q else AW d 279 1171 [x0, x1, x2, x3] (st) σ ρ g τ Q := aw_br m279 d279_1168 rfl rfl rfl
theorem d279_1171 : decode cL_law 1171 = .ok (.iconst 0, 1) := by decide +kernel
theorem s279_1171 {d : Nat} {st : List Value} {σ : am_I} {ρ : am_R} {g : am_J} {τ : am_T} {Q : am_Q} {x0 x1 x2 x3 : Value} : AW d 279 1171 [x0, x1, x2, x3] (st) σ ρ g τ Q = AW d 279 1172 [x0, x1, x2, x3] (.int 0 :: st) σ ρ g τ Q := aw_lc m279 d279_1171 rfl rfl rfl
theorem d279_1172 : decode cL_law 1172 = .ok (.ireturn, 1) := by decide +kernel
theorem s279_1172 {d : Nat} {σ : am_I} {ρ : am_R} {g : am_J} {τ : am_T} {Q : am_Q} {x0 x1 x2 x3 : Value} {v : Int32} (hv : am_b01 v = true) : AW d 279 1172 [x0, x1, x2, x3] ([.int v]) σ ρ g τ Q = Q (some (.int v)) σ ρ g τ := aw_rz m279 d279_1172 rfl hv
theorem d279_1173 : decode cL_law 1173 = .ok (.aload_n 1, 1) := by decide +kernel
theorem s279_1173 {d : Nat} {st : List Value} {σ : am_I} {ρ : am_R} {g : am_J} {τ : am_T} {Q : am_Q} {x0 x2 x3 : Value} {v : Nat} : AW d 279 1173 [x0, .ref v, x2, x3] (st) σ ρ g τ Q = AW d 279 1174 [x0, .ref v, x2, x3] (.ref v :: st) σ ρ g τ Q := aw_lc m279 d279_1173 rfl rfl rfl
theorem d279_1174 : decode cL_law 1174 = .ok (.aload_n 0, 1) := by decide +kernel
theorem s279_1174 {d : Nat} {st : List Value} {σ : am_I} {ρ : am_R} {g : am_J} {τ : am_T} {Q : am_Q} {x1 x2 x3 : Value} {v : Nat} : AW d 279 1174 [.ref v, x1, x2, x3] (st) σ ρ g τ Q = AW d 279 1175 [.ref v, x1, x2, x3] (.ref v :: st) σ ρ g τ Q := aw_lc m279 d279_1174 rfl rfl rfl
theorem d279_1175 : decode cL_law 1175 = .ok (.iload_n 3, 1) := by decide +kernel
theorem s279_1175 {d : Nat} {st : List Value} {σ : am_I} {ρ : am_R} {g : am_J} {τ : am_T} {Q : am_Q} {x0 x1 x2 : Value} {v : Int32} : AW d 279 1175 [x0, x1, x2, .int v] (st) σ ρ g τ Q = AW d 279 1176 [x0, x1, x2, .int v] (.int v :: st) σ ρ g τ Q := aw_lc m279 d279_1175 rfl rfl rfl
theorem d279_1176 : decode cL_law 1176 = .ok (.iconst 1, 1) := by decide +kernel
theorem s279_1176 {d : Nat} {st : List Value} {σ : am_I} {ρ : am_R} {g : am_J} {τ : am_T} {Q : am_Q} {x0 x1 x2 x3 : Value} : AW d 279 1176 [x0, x1, x2, x3] (st) σ ρ g τ Q = AW d 279 1177 [x0, x1, x2, x3] (.int 1 :: st) σ ρ g τ Q := aw_lc m279 d279_1176 rfl rfl rfl
theorem d279_1177 : decode cL_law 1177 = .ok (.iadd, 1) := by decide +kernel
theorem s279_1177 {d : Nat} {st : List Value} {σ : am_I} {ρ : am_R} {g : am_J} {τ : am_T} {Q : am_Q} {x0 x1 x2 x3 : Value} {v w : Int32} : AW d 279 1177 [x0, x1, x2, x3] (.int w :: .int v :: st) σ ρ g τ Q = AW d 279 1178 [x0, x1, x2, x3] (.int (v + w) :: st) σ ρ g τ Q := aw_lc m279 d279_1177 rfl rfl rfl
theorem d279_1178 : decode cL_law 1178 = .ok (.iaload, 1) := by decide +kernel
theorem s279_1178 {d : Nat} {st : List Value} {σ : am_I} {ρ : am_R} {g : am_J} {τ : am_T} {Q : am_Q} {x0 x1 x2 x3 : Value} {a : Nat} {j : Int32} (ht : τ.1 a = 15) (hj : am_inb j (τ.2.1 a) = true) : AW d 279 1178 [x0, x1, x2, x3] (.int j :: .ref a :: st) σ ρ g τ Q = AW d 279 1179 [x0, x1, x2, x3] (.int (σ a j.toNatClampNeg) :: st) σ ρ g τ Q := aw_ial m279 d279_1178 rfl ht hj
theorem d279_1179 : decode cL_law 1179 = .ok (.aload_n 0, 1) := by decide +kernel
theorem s279_1179 {d : Nat} {st : List Value} {σ : am_I} {ρ : am_R} {g : am_J} {τ : am_T} {Q : am_Q} {x1 x2 x3 : Value} {v : Nat} : AW d 279 1179 [.ref v, x1, x2, x3] (st) σ ρ g τ Q = AW d 279 1180 [.ref v, x1, x2, x3] (.ref v :: st) σ ρ g τ Q := aw_lc m279 d279_1179 rfl rfl rfl
theorem d279_1180 : decode cL_law 1180 = .ok (.iload_n 3, 1) := by decide +kernel
theorem s279_1180 {d : Nat} {st : List Value} {σ : am_I} {ρ : am_R} {g : am_J} {τ : am_T} {Q : am_Q} {x0 x1 x2 : Value} {v : Int32} : AW d 279 1180 [x0, x1, x2, .int v] (st) σ ρ g τ Q = AW d 279 1181 [x0, x1, x2, .int v] (.int v :: st) σ ρ g τ Q := aw_lc m279 d279_1180 rfl rfl rfl
theorem d279_1181 : decode cL_law 1181 = .ok (.iconst 2, 1) := by decide +kernel
theorem s279_1181 {d : Nat} {st : List Value} {σ : am_I} {ρ : am_R} {g : am_J} {τ : am_T} {Q : am_Q} {x0 x1 x2 x3 : Value} : AW d 279 1181 [x0, x1, x2, x3] (st) σ ρ g τ Q = AW d 279 1182 [x0, x1, x2, x3] (.int 2 :: st) σ ρ g τ Q := aw_lc m279 d279_1181 rfl rfl rfl
theorem d279_1182 : decode cL_law 1182 = .ok (.iadd, 1) := by decide +kernel
theorem s279_1182 {d : Nat} {st : List Value} {σ : am_I} {ρ : am_R} {g : am_J} {τ : am_T} {Q : am_Q} {x0 x1 x2 x3 : Value} {v w : Int32} : AW d 279 1182 [x0, x1, x2, x3] (.int w :: .int v :: st) σ ρ g τ Q = AW d 279 1183 [x0, x1, x2, x3] (.int (v + w) :: st) σ ρ g τ Q := aw_lc m279 d279_1182 rfl rfl rfl
theorem d279_1183 : decode cL_law 1183 = .ok (.iaload, 1) := by decide +kernel
theorem s279_1183 {d : Nat} {st : List Value} {σ : am_I} {ρ : am_R} {g : am_J} {τ : am_T} {Q : am_Q} {x0 x1 x2 x3 : Value} {a : Nat} {j : Int32} (ht : τ.1 a = 15) (hj : am_inb j (τ.2.1 a) = true) : AW d 279 1183 [x0, x1, x2, x3] (.int j :: .ref a :: st) σ ρ g τ Q = AW d 279 1184 [x0, x1, x2, x3] (.int (σ a j.toNatClampNeg) :: st) σ ρ g τ Q := aw_ial m279 d279_1183 rfl ht hj
theorem d279_1184 : decode cL_law 1184 = .ok (.aload_n 0, 1) := by decide +kernel
theorem s279_1184 {d : Nat} {st : List Value} {σ : am_I} {ρ : am_R} {g : am_J} {τ : am_T} {Q : am_Q} {x1 x2 x3 : Value} {v : Nat} : AW d 279 1184 [.ref v, x1, x2, x3] (st) σ ρ g τ Q = AW d 279 1185 [.ref v, x1, x2, x3] (.ref v :: st) σ ρ g τ Q := aw_lc m279 d279_1184 rfl rfl rfl
theorem d279_1185 : decode cL_law 1185 = .ok (.iload_n 3, 1) := by decide +kernel
theorem s279_1185 {d : Nat} {st : List Value} {σ : am_I} {ρ : am_R} {g : am_J} {τ : am_T} {Q : am_Q} {x0 x1 x2 : Value} {v : Int32} : AW d 279 1185 [x0, x1, x2, .int v] (st) σ ρ g τ Q = AW d 279 1186 [x0, x1, x2, .int v] (.int v :: st) σ ρ g τ Q := aw_lc m279 d279_1185 rfl rfl rfl
theorem d279_1186 : decode cL_law 1186 = .ok (.iconst 3, 1) := by decide +kernel
theorem s279_1186 {d : Nat} {st : List Value} {σ : am_I} {ρ : am_R} {g : am_J} {τ : am_T} {Q : am_Q} {x0 x1 x2 x3 : Value} : AW d 279 1186 [x0, x1, x2, x3] (st) σ ρ g τ Q = AW d 279 1187 [x0, x1, x2, x3] (.int 3 :: st) σ ρ g τ Q := aw_lc m279 d279_1186 rfl rfl rfl
theorem d279_1187 : decode cL_law 1187 = .ok (.iadd, 1) := by decide +kernel
theorem s279_1187 {d : Nat} {st : List Value} {σ : am_I} {ρ : am_R} {g : am_J} {τ : am_T} {Q : am_Q} {x0 x1 x2 x3 : Value} {v w : Int32} : AW d 279 1187 [x0, x1, x2, x3] (.int w :: .int v :: st) σ ρ g τ Q = AW d 279 1188 [x0, x1, x2, x3] (.int (v + w) :: st) σ ρ g τ Q := aw_lc m279 d279_1187 rfl rfl rfl
theorem d279_1188 : decode cL_law 1188 = .ok (.iaload, 1) := by decide +kernel
theorem s279_1188 {d : Nat} {st : List Value} {σ : am_I} {ρ : am_R} {g : am_J} {τ : am_T} {Q : am_Q} {x0 x1 x2 x3 : Value} {a : Nat} {j : Int32} (ht : τ.1 a = 15) (hj : am_inb j (τ.2.1 a) = true) : AW d 279 1188 [x0, x1, x2, x3] (.int j :: .ref a :: st) σ ρ g τ Q = AW d 279 1189 [x0, x1, x2, x3] (.int (σ a j.toNatClampNeg) :: st) σ ρ g τ Q := aw_ial m279 d279_1188 rfl ht hj
theorem d279_1189 : decode cL_law 1189 = .ok (.aload_n 0, 1) := by decide +kernel
theorem s279_1189 {d : Nat} {st : List Value} {σ : am_I} {ρ : am_R} {g : am_J} {τ : am_T} {Q : am_Q} {x1 x2 x3 : Value} {v : Nat} : AW d 279 1189 [.ref v, x1, x2, x3] (st) σ ρ g τ Q = AW d 279 1190 [.ref v, x1, x2, x3] (.ref v :: st) σ ρ g τ Q := aw_lc m279 d279_1189 rfl rfl rfl
theorem d279_1190 : decode cL_law 1190 = .ok (.iload_n 3, 1) := by decide +kernel
theorem s279_1190 {d : Nat} {st : List Value} {σ : am_I} {ρ : am_R} {g : am_J} {τ : am_T} {Q : am_Q} {x0 x1 x2 : Value} {v : Int32} : AW d 279 1190 [x0, x1, x2, .int v] (st) σ ρ g τ Q = AW d 279 1191 [x0, x1, x2, .int v] (.int v :: st) σ ρ g τ Q := aw_lc m279 d279_1190 rfl rfl rfl
theorem d279_1191 : decode cL_law 1191 = .ok (.iconst 4, 1) := by decide +kernel
theorem s279_1191 {d : Nat} {st : List Value} {σ : am_I} {ρ : am_R} {g : am_J} {τ : am_T} {Q : am_Q} {x0 x1 x2 x3 : Value} : AW d 279 1191 [x0, x1, x2, x3] (st) σ ρ g τ Q = AW d 279 1192 [x0, x1, x2, x3] (.int 4 :: st) σ ρ g τ Q := aw_lc m279 d279_1191 rfl rfl rfl
theorem d279_1192 : decode cL_law 1192 = .ok (.iadd, 1) := by decide +kernel
theorem s279_1192 {d : Nat} {st : List Value} {σ : am_I} {ρ : am_R} {g : am_J} {τ : am_T} {Q : am_Q} {x0 x1 x2 x3 : Value} {v w : Int32} : AW d 279 1192 [x0, x1, x2, x3] (.int w :: .int v :: st) σ ρ g τ Q = AW d 279 1193 [x0, x1, x2, x3] (.int (v + w) :: st) σ ρ g τ Q := aw_lc m279 d279_1192 rfl rfl rfl
theorem d279_1193 : decode cL_law 1193 = .ok (.iaload, 1) := by decide +kernel
theorem s279_1193 {d : Nat} {st : List Value} {σ : am_I} {ρ : am_R} {g : am_J} {τ : am_T} {Q : am_Q} {x0 x1 x2 x3 : Value} {a : Nat} {j : Int32} (ht : τ.1 a = 15) (hj : am_inb j (τ.2.1 a) = true) : AW d 279 1193 [x0, x1, x2, x3] (.int j :: .ref a :: st) σ ρ g τ Q = AW d 279 1194 [x0, x1, x2, x3] (.int (σ a j.toNatClampNeg) :: st) σ ρ g τ Q := aw_ial m279 d279_1193 rfl ht hj
theorem d279_1194 : decode cL_law 1194 = .ok (.invokevirtual 121, 3) := by decide +kernel
theorem s279_1194 {d : Nat} {st : List Value} {σ : am_I} {ρ : am_R} {g : am_J} {τ : am_T} {Q : am_Q} {x0 x1 x2 x3 : Value} {p0 : Nat} {p1 : Int32} {p2 : Int32} {p3 : Int32} {p4 : Int32} (ht : τ.1 p0 = 11) (hs : st.length ≤ 4) : AW (d + 1) 279 1194 [x0, x1, x2, x3] (.int p4 :: .int p3 :: .int p2 :: .int p1 :: .ref p0 :: st) σ ρ g τ Q = AW d 138 0 [.ref p0, .int p1, .int p2, .int p3, .int p4, am_jk] [] σ ρ g τ (fun r9 σ ρ g τ => AW (d + 1) 279 1197 [x0, x1, x2, x3] (r9.toList ++ st) σ ρ g τ Q) := aw_cv m279 d279_1194 rfl m138 rfl rfl (by decide) en138 ok138 rfl ht hs
theorem d279_1197 : decode cL_law 1197 = .ok (.aload_n 2, 1) := by decide +kernel
theorem s279_1197 {d : Nat} {st : List Value} {σ : am_I} {ρ : am_R} {g : am_J} {τ : am_T} {Q : am_Q} {x0 x1 x3 : Value} {v : Nat} : AW d 279 1197 [x0, x1, .ref v, x3] (st) σ ρ g τ Q = AW d 279 1198 [x0, x1, .ref v, x3] (.ref v :: st) σ ρ g τ Q := aw_lc m279 d279_1197 rfl rfl rfl
theorem d279_1198 : decode cL_law 1198 = .ok (.aload_n 0, 1) := by decide +kernel
theorem s279_1198 {d : Nat} {st : List Value} {σ : am_I} {ρ : am_R} {g : am_J} {τ : am_T} {Q : am_Q} {x1 x2 x3 : Value} {v : Nat} : AW d 279 1198 [.ref v, x1, x2, x3] (st) σ ρ g τ Q = AW d 279 1199 [.ref v, x1, x2, x3] (.ref v :: st) σ ρ g τ Q := aw_lc m279 d279_1198 rfl rfl rfl
theorem d279_1199 : decode cL_law 1199 = .ok (.iload_n 3, 1) := by decide +kernel
theorem s279_1199 {d : Nat} {st : List Value} {σ : am_I} {ρ : am_R} {g : am_J} {τ : am_T} {Q : am_Q} {x0 x1 x2 : Value} {v : Int32} : AW d 279 1199 [x0, x1, x2, .int v] (st) σ ρ g τ Q = AW d 279 1200 [x0, x1, x2, .int v] (.int v :: st) σ ρ g τ Q := aw_lc m279 d279_1199 rfl rfl rfl
theorem d279_1200 : decode cL_law 1200 = .ok (.iconst 1, 1) := by decide +kernel
theorem s279_1200 {d : Nat} {st : List Value} {σ : am_I} {ρ : am_R} {g : am_J} {τ : am_T} {Q : am_Q} {x0 x1 x2 x3 : Value} : AW d 279 1200 [x0, x1, x2, x3] (st) σ ρ g τ Q = AW d 279 1201 [x0, x1, x2, x3] (.int 1 :: st) σ ρ g τ Q := aw_lc m279 d279_1200 rfl rfl rfl
theorem d279_1201 : decode cL_law 1201 = .ok (.iadd, 1) := by decide +kernel
theorem s279_1201 {d : Nat} {st : List Value} {σ : am_I} {ρ : am_R} {g : am_J} {τ : am_T} {Q : am_Q} {x0 x1 x2 x3 : Value} {v w : Int32} : AW d 279 1201 [x0, x1, x2, x3] (.int w :: .int v :: st) σ ρ g τ Q = AW d 279 1202 [x0, x1, x2, x3] (.int (v + w) :: st) σ ρ g τ Q := aw_lc m279 d279_1201 rfl rfl rfl
theorem d279_1202 : decode cL_law 1202 = .ok (.iaload, 1) := by decide +kernel
theorem s279_1202 {d : Nat} {st : List Value} {σ : am_I} {ρ : am_R} {g : am_J} {τ : am_T} {Q : am_Q} {x0 x1 x2 x3 : Value} {a : Nat} {j : Int32} (ht : τ.1 a = 15) (hj : am_inb j (τ.2.1 a) = true) : AW d 279 1202 [x0, x1, x2, x3] (.int j :: .ref a :: st) σ ρ g τ Q = AW d 279 1203 [x0, x1, x2, x3] (.int (σ a j.toNatClampNeg) :: st) σ ρ g τ Q := aw_ial m279 d279_1202 rfl ht hj
theorem d279_1203 : decode cL_law 1203 = .ok (.aload_n 0, 1) := by decide +kernel
theorem s279_1203 {d : Nat} {st : List Value} {σ : am_I} {ρ : am_R} {g : am_J} {τ : am_T} {Q : am_Q} {x1 x2 x3 : Value} {v : Nat} : AW d 279 1203 [.ref v, x1, x2, x3] (st) σ ρ g τ Q = AW d 279 1204 [.ref v, x1, x2, x3] (.ref v :: st) σ ρ g τ Q := aw_lc m279 d279_1203 rfl rfl rfl
theorem d279_1204 : decode cL_law 1204 = .ok (.iload_n 3, 1) := by decide +kernel
theorem s279_1204 {d : Nat} {st : List Value} {σ : am_I} {ρ : am_R} {g : am_J} {τ : am_T} {Q : am_Q} {x0 x1 x2 : Value} {v : Int32} : AW d 279 1204 [x0, x1, x2, .int v] (st) σ ρ g τ Q = AW d 279 1205 [x0, x1, x2, .int v] (.int v :: st) σ ρ g τ Q := aw_lc m279 d279_1204 rfl rfl rfl
theorem d279_1205 : decode cL_law 1205 = .ok (.iconst 2, 1) := by decide +kernel
theorem s279_1205 {d : Nat} {st : List Value} {σ : am_I} {ρ : am_R} {g : am_J} {τ : am_T} {Q : am_Q} {x0 x1 x2 x3 : Value} : AW d 279 1205 [x0, x1, x2, x3] (st) σ ρ g τ Q = AW d 279 1206 [x0, x1, x2, x3] (.int 2 :: st) σ ρ g τ Q := aw_lc m279 d279_1205 rfl rfl rfl
theorem d279_1206 : decode cL_law 1206 = .ok (.iadd, 1) := by decide +kernel
theorem s279_1206 {d : Nat} {st : List Value} {σ : am_I} {ρ : am_R} {g : am_J} {τ : am_T} {Q : am_Q} {x0 x1 x2 x3 : Value} {v w : Int32} : AW d 279 1206 [x0, x1, x2, x3] (.int w :: .int v :: st) σ ρ g τ Q = AW d 279 1207 [x0, x1, x2, x3] (.int (v + w) :: st) σ ρ g τ Q := aw_lc m279 d279_1206 rfl rfl rfl
theorem d279_1207 : decode cL_law 1207 = .ok (.iaload, 1) := by decide +kernel
theorem s279_1207 {d : Nat} {st : List Value} {σ : am_I} {ρ : am_R} {g : am_J} {τ : am_T} {Q : am_Q} {x0 x1 x2 x3 : Value} {a : Nat} {j : Int32} (ht : τ.1 a = 15) (hj : am_inb j (τ.2.1 a) = true) : AW d 279 1207 [x0, x1, x2, x3] (.int j :: .ref a :: st) σ ρ g τ Q = AW d 279 1208 [x0, x1, x2, x3] (.int (σ a j.toNatClampNeg) :: st) σ ρ g τ Q := aw_ial m279 d279_1207 rfl ht hj
theorem d279_1208 : decode cL_law 1208 = .ok (.aload_n 0, 1) := by decide +kernel
theorem s279_1208 {d : Nat} {st : List Value} {σ : am_I} {ρ : am_R} {g : am_J} {τ : am_T} {Q : am_Q} {x1 x2 x3 : Value} {v : Nat} : AW d 279 1208 [.ref v, x1, x2, x3] (st) σ ρ g τ Q = AW d 279 1209 [.ref v, x1, x2, x3] (.ref v :: st) σ ρ g τ Q := aw_lc m279 d279_1208 rfl rfl rfl
theorem d279_1209 : decode cL_law 1209 = .ok (.iload_n 3, 1) := by decide +kernel
theorem s279_1209 {d : Nat} {st : List Value} {σ : am_I} {ρ : am_R} {g : am_J} {τ : am_T} {Q : am_Q} {x0 x1 x2 : Value} {v : Int32} : AW d 279 1209 [x0, x1, x2, .int v] (st) σ ρ g τ Q = AW d 279 1210 [x0, x1, x2, .int v] (.int v :: st) σ ρ g τ Q := aw_lc m279 d279_1209 rfl rfl rfl
theorem d279_1210 : decode cL_law 1210 = .ok (.iconst 3, 1) := by decide +kernel
theorem s279_1210 {d : Nat} {st : List Value} {σ : am_I} {ρ : am_R} {g : am_J} {τ : am_T} {Q : am_Q} {x0 x1 x2 x3 : Value} : AW d 279 1210 [x0, x1, x2, x3] (st) σ ρ g τ Q = AW d 279 1211 [x0, x1, x2, x3] (.int 3 :: st) σ ρ g τ Q := aw_lc m279 d279_1210 rfl rfl rfl
theorem d279_1211 : decode cL_law 1211 = .ok (.iadd, 1) := by decide +kernel
theorem s279_1211 {d : Nat} {st : List Value} {σ : am_I} {ρ : am_R} {g : am_J} {τ : am_T} {Q : am_Q} {x0 x1 x2 x3 : Value} {v w : Int32} : AW d 279 1211 [x0, x1, x2, x3] (.int w :: .int v :: st) σ ρ g τ Q = AW d 279 1212 [x0, x1, x2, x3] (.int (v + w) :: st) σ ρ g τ Q := aw_lc m279 d279_1211 rfl rfl rfl
theorem d279_1212 : decode cL_law 1212 = .ok (.iaload, 1) := by decide +kernel
theorem s279_1212 {d : Nat} {st : List Value} {σ : am_I} {ρ : am_R} {g : am_J} {τ : am_T} {Q : am_Q} {x0 x1 x2 x3 : Value} {a : Nat} {j : Int32} (ht : τ.1 a = 15) (hj : am_inb j (τ.2.1 a) = true) : AW d 279 1212 [x0, x1, x2, x3] (.int j :: .ref a :: st) σ ρ g τ Q = AW d 279 1213 [x0, x1, x2, x3] (.int (σ a j.toNatClampNeg) :: st) σ ρ g τ Q := aw_ial m279 d279_1212 rfl ht hj
theorem d279_1213 : decode cL_law 1213 = .ok (.aload_n 0, 1) := by decide +kernel
theorem s279_1213 {d : Nat} {st : List Value} {σ : am_I} {ρ : am_R} {g : am_J} {τ : am_T} {Q : am_Q} {x1 x2 x3 : Value} {v : Nat} : AW d 279 1213 [.ref v, x1, x2, x3] (st) σ ρ g τ Q = AW d 279 1214 [.ref v, x1, x2, x3] (.ref v :: st) σ ρ g τ Q := aw_lc m279 d279_1213 rfl rfl rfl
theorem d279_1214 : decode cL_law 1214 = .ok (.iload_n 3, 1) := by decide +kernel
theorem s279_1214 {d : Nat} {st : List Value} {σ : am_I} {ρ : am_R} {g : am_J} {τ : am_T} {Q : am_Q} {x0 x1 x2 : Value} {v : Int32} : AW d 279 1214 [x0, x1, x2, .int v] (st) σ ρ g τ Q = AW d 279 1215 [x0, x1, x2, .int v] (.int v :: st) σ ρ g τ Q := aw_lc m279 d279_1214 rfl rfl rfl
theorem d279_1215 : decode cL_law 1215 = .ok (.iconst 4, 1) := by decide +kernel
theorem s279_1215 {d : Nat} {st : List Value} {σ : am_I} {ρ : am_R} {g : am_J} {τ : am_T} {Q : am_Q} {x0 x1 x2 x3 : Value} : AW d 279 1215 [x0, x1, x2, x3] (st) σ ρ g τ Q = AW d 279 1216 [x0, x1, x2, x3] (.int 4 :: st) σ ρ g τ Q := aw_lc m279 d279_1215 rfl rfl rfl
theorem d279_1216 : decode cL_law 1216 = .ok (.iadd, 1) := by decide +kernel
theorem s279_1216 {d : Nat} {st : List Value} {σ : am_I} {ρ : am_R} {g : am_J} {τ : am_T} {Q : am_Q} {x0 x1 x2 x3 : Value} {v w : Int32} : AW d 279 1216 [x0, x1, x2, x3] (.int w :: .int v :: st) σ ρ g τ Q = AW d 279 1217 [x0, x1, x2, x3] (.int (v + w) :: st) σ ρ g τ Q := aw_lc m279 d279_1216 rfl rfl rfl
theorem d279_1217 : decode cL_law 1217 = .ok (.iaload, 1) := by decide +kernel
theorem s279_1217 {d : Nat} {st : List Value} {σ : am_I} {ρ : am_R} {g : am_J} {τ : am_T} {Q : am_Q} {x0 x1 x2 x3 : Value} {a : Nat} {j : Int32} (ht : τ.1 a = 15) (hj : am_inb j (τ.2.1 a) = true) : AW d 279 1217 [x0, x1, x2, x3] (.int j :: .ref a :: st) σ ρ g τ Q = AW d 279 1218 [x0, x1, x2, x3] (.int (σ a j.toNatClampNeg) :: st) σ ρ g τ Q := aw_ial m279 d279_1217 rfl ht hj
theorem d279_1218 : decode cL_law 1218 = .ok (.invokevirtual 124, 3) := by decide +kernel
theorem s279_1218 {d : Nat} {st : List Value} {σ : am_I} {ρ : am_R} {g : am_J} {τ : am_T} {Q : am_Q} {x0 x1 x2 x3 : Value} {p0 : Nat} {p1 : Int32} {p2 : Int32} {p3 : Int32} {p4 : Int32} (ht : τ.1 p0 = 12) (hs : st.length ≤ 4) : AW (d + 1) 279 1218 [x0, x1, x2, x3] (.int p4 :: .int p3 :: .int p2 :: .int p1 :: .ref p0 :: st) σ ρ g τ Q = AW d 231 0 [.ref p0, .int p1, .int p2, .int p3, .int p4, am_jk] [] σ ρ g τ (fun r9 σ ρ g τ => AW (d + 1) 279 1221 [x0, x1, x2, x3] (r9.toList ++ st) σ ρ g τ Q) := aw_cv m279 d279_1218 rfl m231 rfl rfl (by decide) en231 ok231 rfl ht hs
theorem d279_1221 : decode cL_law 1221 = .ok (.if_icmp .eq 592, 3) := by decide +kernel
theorem s279_1221 {d : Nat} {st : List Value} {σ : am_I} {ρ : am_R} {g : am_J} {τ : am_T} {Q : am_Q} {x0 x1 x2 x3 : Value} {v w : Int32} : AW d 279 1221 [x0, x1, x2, x3] (.int w :: .int v :: st) σ ρ g τ Q = if v = w then AW d 279 1813 [x0, x1, x2, x3] (st) σ ρ g τ Q else AW d 279 1224 [x0, x1, x2, x3] (st) σ ρ g τ Q := aw_br m279 d279_1221 rfl rfl rfl
theorem d279_1224 : decode cL_law 1224 = .ok (.iconst 0, 1) := by decide +kernel
theorem s279_1224 {d : Nat} {st : List Value} {σ : am_I} {ρ : am_R} {g : am_J} {τ : am_T} {Q : am_Q} {x0 x1 x2 x3 : Value} : AW d 279 1224 [x0, x1, x2, x3] (st) σ ρ g τ Q = AW d 279 1225 [x0, x1, x2, x3] (.int 0 :: st) σ ρ g τ Q := aw_lc m279 d279_1224 rfl rfl rfl
theorem d279_1225 : decode cL_law 1225 = .ok (.ireturn, 1) := by decide +kernel
theorem s279_1225 {d : Nat} {σ : am_I} {ρ : am_R} {g : am_J} {τ : am_T} {Q : am_Q} {x0 x1 x2 x3 : Value} {v : Int32} (hv : am_b01 v = true) : AW d 279 1225 [x0, x1, x2, x3] ([.int v]) σ ρ g τ Q = Q (some (.int v)) σ ρ g τ := aw_rz m279 d279_1225 rfl hv
theorem d279_1226 : decode cL_law 1226 = .ok (.aload_n 1, 1) := by decide +kernel
theorem s279_1226 {d : Nat} {st : List Value} {σ : am_I} {ρ : am_R} {g : am_J} {τ : am_T} {Q : am_Q} {x0 x2 x3 : Value} {v : Nat} : AW d 279 1226 [x0, .ref v, x2, x3] (st) σ ρ g τ Q = AW d 279 1227 [x0, .ref v, x2, x3] (.ref v :: st) σ ρ g τ Q := aw_lc m279 d279_1226 rfl rfl rfl
theorem d279_1227 : decode cL_law 1227 = .ok (.aload_n 0, 1) := by decide +kernel
theorem s279_1227 {d : Nat} {st : List Value} {σ : am_I} {ρ : am_R} {g : am_J} {τ : am_T} {Q : am_Q} {x1 x2 x3 : Value} {v : Nat} : AW d 279 1227 [.ref v, x1, x2, x3] (st) σ ρ g τ Q = AW d 279 1228 [.ref v, x1, x2, x3] (.ref v :: st) σ ρ g τ Q := aw_lc m279 d279_1227 rfl rfl rfl
theorem d279_1228 : decode cL_law 1228 = .ok (.iload_n 3, 1) := by decide +kernel
theorem s279_1228 {d : Nat} {st : List Value} {σ : am_I} {ρ : am_R} {g : am_J} {τ : am_T} {Q : am_Q} {x0 x1 x2 : Value} {v : Int32} : AW d 279 1228 [x0, x1, x2, .int v] (st) σ ρ g τ Q = AW d 279 1229 [x0, x1, x2, .int v] (.int v :: st) σ ρ g τ Q := aw_lc m279 d279_1228 rfl rfl rfl
theorem d279_1229 : decode cL_law 1229 = .ok (.iconst 1, 1) := by decide +kernel
theorem s279_1229 {d : Nat} {st : List Value} {σ : am_I} {ρ : am_R} {g : am_J} {τ : am_T} {Q : am_Q} {x0 x1 x2 x3 : Value} : AW d 279 1229 [x0, x1, x2, x3] (st) σ ρ g τ Q = AW d 279 1230 [x0, x1, x2, x3] (.int 1 :: st) σ ρ g τ Q := aw_lc m279 d279_1229 rfl rfl rfl
theorem d279_1230 : decode cL_law 1230 = .ok (.iadd, 1) := by decide +kernel
theorem s279_1230 {d : Nat} {st : List Value} {σ : am_I} {ρ : am_R} {g : am_J} {τ : am_T} {Q : am_Q} {x0 x1 x2 x3 : Value} {v w : Int32} : AW d 279 1230 [x0, x1, x2, x3] (.int w :: .int v :: st) σ ρ g τ Q = AW d 279 1231 [x0, x1, x2, x3] (.int (v + w) :: st) σ ρ g τ Q := aw_lc m279 d279_1230 rfl rfl rfl
theorem d279_1231 : decode cL_law 1231 = .ok (.iaload, 1) := by decide +kernel
theorem s279_1231 {d : Nat} {st : List Value} {σ : am_I} {ρ : am_R} {g : am_J} {τ : am_T} {Q : am_Q} {x0 x1 x2 x3 : Value} {a : Nat} {j : Int32} (ht : τ.1 a = 15) (hj : am_inb j (τ.2.1 a) = true) : AW d 279 1231 [x0, x1, x2, x3] (.int j :: .ref a :: st) σ ρ g τ Q = AW d 279 1232 [x0, x1, x2, x3] (.int (σ a j.toNatClampNeg) :: st) σ ρ g τ Q := aw_ial m279 d279_1231 rfl ht hj
theorem d279_1232 : decode cL_law 1232 = .ok (.invokevirtual 125, 3) := by decide +kernel
theorem s279_1232 {d : Nat} {st : List Value} {σ : am_I} {ρ : am_R} {g : am_J} {τ : am_T} {Q : am_Q} {x0 x1 x2 x3 : Value} {p0 : Nat} {p1 : Int32} (ht : τ.1 p0 = 11) (hs : st.length ≤ 4) : AW (d + 1) 279 1232 [x0, x1, x2, x3] (.int p1 :: .ref p0 :: st) σ ρ g τ Q = AW d 139 0 [.ref p0, .int p1] [] σ ρ g τ (fun r9 σ ρ g τ => AW (d + 1) 279 1235 [x0, x1, x2, x3] (r9.toList ++ st) σ ρ g τ Q) := aw_cv m279 d279_1232 rfl m139 rfl rfl (by decide) en139 ok139 rfl ht hs
theorem d279_1235 : decode cL_law 1235 = .ok (.aload_n 2, 1) := by decide +kernel
theorem s279_1235 {d : Nat} {st : List Value} {σ : am_I} {ρ : am_R} {g : am_J} {τ : am_T} {Q : am_Q} {x0 x1 x3 : Value} {v : Nat} : AW d 279 1235 [x0, x1, .ref v, x3] (st) σ ρ g τ Q = AW d 279 1236 [x0, x1, .ref v, x3] (.ref v :: st) σ ρ g τ Q := aw_lc m279 d279_1235 rfl rfl rfl
theorem d279_1236 : decode cL_law 1236 = .ok (.aload_n 0, 1) := by decide +kernel
theorem s279_1236 {d : Nat} {st : List Value} {σ : am_I} {ρ : am_R} {g : am_J} {τ : am_T} {Q : am_Q} {x1 x2 x3 : Value} {v : Nat} : AW d 279 1236 [.ref v, x1, x2, x3] (st) σ ρ g τ Q = AW d 279 1237 [.ref v, x1, x2, x3] (.ref v :: st) σ ρ g τ Q := aw_lc m279 d279_1236 rfl rfl rfl
theorem d279_1237 : decode cL_law 1237 = .ok (.iload_n 3, 1) := by decide +kernel
theorem s279_1237 {d : Nat} {st : List Value} {σ : am_I} {ρ : am_R} {g : am_J} {τ : am_T} {Q : am_Q} {x0 x1 x2 : Value} {v : Int32} : AW d 279 1237 [x0, x1, x2, .int v] (st) σ ρ g τ Q = AW d 279 1238 [x0, x1, x2, .int v] (.int v :: st) σ ρ g τ Q := aw_lc m279 d279_1237 rfl rfl rfl
theorem d279_1238 : decode cL_law 1238 = .ok (.iconst 1, 1) := by decide +kernel
theorem s279_1238 {d : Nat} {st : List Value} {σ : am_I} {ρ : am_R} {g : am_J} {τ : am_T} {Q : am_Q} {x0 x1 x2 x3 : Value} : AW d 279 1238 [x0, x1, x2, x3] (st) σ ρ g τ Q = AW d 279 1239 [x0, x1, x2, x3] (.int 1 :: st) σ ρ g τ Q := aw_lc m279 d279_1238 rfl rfl rfl
theorem d279_1239 : decode cL_law 1239 = .ok (.iadd, 1) := by decide +kernel
theorem s279_1239 {d : Nat} {st : List Value} {σ : am_I} {ρ : am_R} {g : am_J} {τ : am_T} {Q : am_Q} {x0 x1 x2 x3 : Value} {v w : Int32} : AW d 279 1239 [x0, x1, x2, x3] (.int w :: .int v :: st) σ ρ g τ Q = AW d 279 1240 [x0, x1, x2, x3] (.int (v + w) :: st) σ ρ g τ Q := aw_lc m279 d279_1239 rfl rfl rfl
theorem d279_1240 : decode cL_law 1240 = .ok (.iaload, 1) := by decide +kernel
theorem s279_1240 {d : Nat} {st : List Value} {σ : am_I} {ρ : am_R} {g : am_J} {τ : am_T} {Q : am_Q} {x0 x1 x2 x3 : Value} {a : Nat} {j : Int32} (ht : τ.1 a = 15) (hj : am_inb j (τ.2.1 a) = true) : AW d 279 1240 [x0, x1, x2, x3] (.int j :: .ref a :: st) σ ρ g τ Q = AW d 279 1241 [x0, x1, x2, x3] (.int (σ a j.toNatClampNeg) :: st) σ ρ g τ Q := aw_ial m279 d279_1240 rfl ht hj
theorem d279_1241 : decode cL_law 1241 = .ok (.invokevirtual 128, 3) := by decide +kernel
theorem s279_1241 {d : Nat} {st : List Value} {σ : am_I} {ρ : am_R} {g : am_J} {τ : am_T} {Q : am_Q} {x0 x1 x2 x3 : Value} {p0 : Nat} {p1 : Int32} (ht : τ.1 p0 = 12) (hs : st.length ≤ 4) : AW (d + 1) 279 1241 [x0, x1, x2, x3] (.int p1 :: .ref p0 :: st) σ ρ g τ Q = AW d 236 0 [.ref p0, .int p1, am_jk, am_jk] [] σ ρ g τ (fun r9 σ ρ g τ => AW (d + 1) 279 1244 [x0, x1, x2, x3] (r9.toList ++ st) σ ρ g τ Q) := aw_cv m279 d279_1241 rfl m236 rfl rfl (by decide) en236 ok236 rfl ht hs
theorem d279_1244 : decode cL_law 1244 = .ok (.if_icmp .eq 569, 3) := by decide +kernel
theorem s279_1244 {d : Nat} {st : List Value} {σ : am_I} {ρ : am_R} {g : am_J} {τ : am_T} {Q : am_Q} {x0 x1 x2 x3 : Value} {v w : Int32} : AW d 279 1244 [x0, x1, x2, x3] (.int w :: .int v :: st) σ ρ g τ Q = if v = w then AW d 279 1813 [x0, x1, x2, x3] (st) σ ρ g τ Q else AW d 279 1247 [x0, x1, x2, x3] (st) σ ρ g τ Q := aw_br m279 d279_1244 rfl rfl rfl
theorem d279_1247 : decode cL_law 1247 = .ok (.iconst 0, 1) := by decide +kernel
theorem s279_1247 {d : Nat} {st : List Value} {σ : am_I} {ρ : am_R} {g : am_J} {τ : am_T} {Q : am_Q} {x0 x1 x2 x3 : Value} : AW d 279 1247 [x0, x1, x2, x3] (st) σ ρ g τ Q = AW d 279 1248 [x0, x1, x2, x3] (.int 0 :: st) σ ρ g τ Q := aw_lc m279 d279_1247 rfl rfl rfl
theorem d279_1248 : decode cL_law 1248 = .ok (.ireturn, 1) := by decide +kernel
theorem s279_1248 {d : Nat} {σ : am_I} {ρ : am_R} {g : am_J} {τ : am_T} {Q : am_Q} {x0 x1 x2 x3 : Value} {v : Int32} (hv : am_b01 v = true) : AW d 279 1248 [x0, x1, x2, x3] ([.int v]) σ ρ g τ Q = Q (some (.int v)) σ ρ g τ := aw_rz m279 d279_1248 rfl hv
theorem d279_1249 : decode cL_law 1249 = .ok (.aload_n 1, 1) := by decide +kernel
theorem s279_1249 {d : Nat} {st : List Value} {σ : am_I} {ρ : am_R} {g : am_J} {τ : am_T} {Q : am_Q} {x0 x2 x3 : Value} {v : Nat} : AW d 279 1249 [x0, .ref v, x2, x3] (st) σ ρ g τ Q = AW d 279 1250 [x0, .ref v, x2, x3] (.ref v :: st) σ ρ g τ Q := aw_lc m279 d279_1249 rfl rfl rfl
theorem d279_1250 : decode cL_law 1250 = .ok (.aload_n 0, 1) := by decide +kernel
theorem s279_1250 {d : Nat} {st : List Value} {σ : am_I} {ρ : am_R} {g : am_J} {τ : am_T} {Q : am_Q} {x1 x2 x3 : Value} {v : Nat} : AW d 279 1250 [.ref v, x1, x2, x3] (st) σ ρ g τ Q = AW d 279 1251 [.ref v, x1, x2, x3] (.ref v :: st) σ ρ g τ Q := aw_lc m279 d279_1250 rfl rfl rfl
theorem d279_1251 : decode cL_law 1251 = .ok (.iload_n 3, 1) := by decide +kernel
theorem s279_1251 {d : Nat} {st : List Value} {σ : am_I} {ρ : am_R} {g : am_J} {τ : am_T} {Q : am_Q} {x0 x1 x2 : Value} {v : Int32} : AW d 279 1251 [x0, x1, x2, .int v] (st) σ ρ g τ Q = AW d 279 1252 [x0, x1, x2, .int v] (.int v :: st) σ ρ g τ Q := aw_lc m279 d279_1251 rfl rfl rfl
theorem d279_1252 : decode cL_law 1252 = .ok (.iconst 1, 1) := by decide +kernel
theorem s279_1252 {d : Nat} {st : List Value} {σ : am_I} {ρ : am_R} {g : am_J} {τ : am_T} {Q : am_Q} {x0 x1 x2 x3 : Value} : AW d 279 1252 [x0, x1, x2, x3] (st) σ ρ g τ Q = AW d 279 1253 [x0, x1, x2, x3] (.int 1 :: st) σ ρ g τ Q := aw_lc m279 d279_1252 rfl rfl rfl
theorem d279_1253 : decode cL_law 1253 = .ok (.iadd, 1) := by decide +kernel
theorem s279_1253 {d : Nat} {st : List Value} {σ : am_I} {ρ : am_R} {g : am_J} {τ : am_T} {Q : am_Q} {x0 x1 x2 x3 : Value} {v w : Int32} : AW d 279 1253 [x0, x1, x2, x3] (.int w :: .int v :: st) σ ρ g τ Q = AW d 279 1254 [x0, x1, x2, x3] (.int (v + w) :: st) σ ρ g τ Q := aw_lc m279 d279_1253 rfl rfl rfl
theorem d279_1254 : decode cL_law 1254 = .ok (.iaload, 1) := by decide +kernel
theorem s279_1254 {d : Nat} {st : List Value} {σ : am_I} {ρ : am_R} {g : am_J} {τ : am_T} {Q : am_Q} {x0 x1 x2 x3 : Value} {a : Nat} {j : Int32} (ht : τ.1 a = 15) (hj : am_inb j (τ.2.1 a) = true) : AW d 279 1254 [x0, x1, x2, x3] (.int j :: .ref a :: st) σ ρ g τ Q = AW d 279 1255 [x0, x1, x2, x3] (.int (σ a j.toNatClampNeg) :: st) σ ρ g τ Q := aw_ial m279 d279_1254 rfl ht hj
theorem d279_1255 : decode cL_law 1255 = .ok (.aload_n 0, 1) := by decide +kernel
theorem s279_1255 {d : Nat} {st : List Value} {σ : am_I} {ρ : am_R} {g : am_J} {τ : am_T} {Q : am_Q} {x1 x2 x3 : Value} {v : Nat} : AW d 279 1255 [.ref v, x1, x2, x3] (st) σ ρ g τ Q = AW d 279 1256 [.ref v, x1, x2, x3] (.ref v :: st) σ ρ g τ Q := aw_lc m279 d279_1255 rfl rfl rfl
theorem d279_1256 : decode cL_law 1256 = .ok (.iload_n 3, 1) := by decide +kernel
theorem s279_1256 {d : Nat} {st : List Value} {σ : am_I} {ρ : am_R} {g : am_J} {τ : am_T} {Q : am_Q} {x0 x1 x2 : Value} {v : Int32} : AW d 279 1256 [x0, x1, x2, .int v] (st) σ ρ g τ Q = AW d 279 1257 [x0, x1, x2, .int v] (.int v :: st) σ ρ g τ Q := aw_lc m279 d279_1256 rfl rfl rfl
theorem d279_1257 : decode cL_law 1257 = .ok (.iconst 2, 1) := by decide +kernel
theorem s279_1257 {d : Nat} {st : List Value} {σ : am_I} {ρ : am_R} {g : am_J} {τ : am_T} {Q : am_Q} {x0 x1 x2 x3 : Value} : AW d 279 1257 [x0, x1, x2, x3] (st) σ ρ g τ Q = AW d 279 1258 [x0, x1, x2, x3] (.int 2 :: st) σ ρ g τ Q := aw_lc m279 d279_1257 rfl rfl rfl
theorem d279_1258 : decode cL_law 1258 = .ok (.iadd, 1) := by decide +kernel
theorem s279_1258 {d : Nat} {st : List Value} {σ : am_I} {ρ : am_R} {g : am_J} {τ : am_T} {Q : am_Q} {x0 x1 x2 x3 : Value} {v w : Int32} : AW d 279 1258 [x0, x1, x2, x3] (.int w :: .int v :: st) σ ρ g τ Q = AW d 279 1259 [x0, x1, x2, x3] (.int (v + w) :: st) σ ρ g τ Q := aw_lc m279 d279_1258 rfl rfl rfl
theorem d279_1259 : decode cL_law 1259 = .ok (.iaload, 1) := by decide +kernel
theorem s279_1259 {d : Nat} {st : List Value} {σ : am_I} {ρ : am_R} {g : am_J} {τ : am_T} {Q : am_Q} {x0 x1 x2 x3 : Value} {a : Nat} {j : Int32} (ht : τ.1 a = 15) (hj : am_inb j (τ.2.1 a) = true) : AW d 279 1259 [x0, x1, x2, x3] (.int j :: .ref a :: st) σ ρ g τ Q = AW d 279 1260 [x0, x1, x2, x3] (.int (σ a j.toNatClampNeg) :: st) σ ρ g τ Q := aw_ial m279 d279_1259 rfl ht hj
theorem d279_1260 : decode cL_law 1260 = .ok (.invokevirtual 129, 3) := by decide +kernel
theorem s279_1260 {d : Nat} {st : List Value} {σ : am_I} {ρ : am_R} {g : am_J} {τ : am_T} {Q : am_Q} {x0 x1 x2 x3 : Value} {p0 : Nat} {p1 : Int32} {p2 : Int32} (ht : τ.1 p0 = 11) (hs : st.length ≤ 4) : AW (d + 1) 279 1260 [x0, x1, x2, x3] (.int p2 :: .int p1 :: .ref p0 :: st) σ ρ g τ Q = AW d 141 0 [.ref p0, .int p1, .int p2, am_jk] [] σ ρ g τ (fun r9 σ ρ g τ => AW (d + 1) 279 1263 [x0, x1, x2, x3] (r9.toList ++ st) σ ρ g τ Q) := aw_cv m279 d279_1260 rfl m141 rfl rfl (by decide) en141 ok141 rfl ht hs
theorem d279_1263 : decode cL_law 1263 = .ok (.aload_n 2, 1) := by decide +kernel
theorem s279_1263 {d : Nat} {st : List Value} {σ : am_I} {ρ : am_R} {g : am_J} {τ : am_T} {Q : am_Q} {x0 x1 x3 : Value} {v : Nat} : AW d 279 1263 [x0, x1, .ref v, x3] (st) σ ρ g τ Q = AW d 279 1264 [x0, x1, .ref v, x3] (.ref v :: st) σ ρ g τ Q := aw_lc m279 d279_1263 rfl rfl rfl
theorem d279_1264 : decode cL_law 1264 = .ok (.aload_n 0, 1) := by decide +kernel
theorem s279_1264 {d : Nat} {st : List Value} {σ : am_I} {ρ : am_R} {g : am_J} {τ : am_T} {Q : am_Q} {x1 x2 x3 : Value} {v : Nat} : AW d 279 1264 [.ref v, x1, x2, x3] (st) σ ρ g τ Q = AW d 279 1265 [.ref v, x1, x2, x3] (.ref v :: st) σ ρ g τ Q := aw_lc m279 d279_1264 rfl rfl rfl
theorem d279_1265 : decode cL_law 1265 = .ok (.iload_n 3, 1) := by decide +kernel
theorem s279_1265 {d : Nat} {st : List Value} {σ : am_I} {ρ : am_R} {g : am_J} {τ : am_T} {Q : am_Q} {x0 x1 x2 : Value} {v : Int32} : AW d 279 1265 [x0, x1, x2, .int v] (st) σ ρ g τ Q = AW d 279 1266 [x0, x1, x2, .int v] (.int v :: st) σ ρ g τ Q := aw_lc m279 d279_1265 rfl rfl rfl
theorem d279_1266 : decode cL_law 1266 = .ok (.iconst 1, 1) := by decide +kernel
theorem s279_1266 {d : Nat} {st : List Value} {σ : am_I} {ρ : am_R} {g : am_J} {τ : am_T} {Q : am_Q} {x0 x1 x2 x3 : Value} : AW d 279 1266 [x0, x1, x2, x3] (st) σ ρ g τ Q = AW d 279 1267 [x0, x1, x2, x3] (.int 1 :: st) σ ρ g τ Q := aw_lc m279 d279_1266 rfl rfl rfl
theorem d279_1267 : decode cL_law 1267 = .ok (.iadd, 1) := by decide +kernel
theorem s279_1267 {d : Nat} {st : List Value} {σ : am_I} {ρ : am_R} {g : am_J} {τ : am_T} {Q : am_Q} {x0 x1 x2 x3 : Value} {v w : Int32} : AW d 279 1267 [x0, x1, x2, x3] (.int w :: .int v :: st) σ ρ g τ Q = AW d 279 1268 [x0, x1, x2, x3] (.int (v + w) :: st) σ ρ g τ Q := aw_lc m279 d279_1267 rfl rfl rfl
theorem d279_1268 : decode cL_law 1268 = .ok (.iaload, 1) := by decide +kernel
theorem s279_1268 {d : Nat} {st : List Value} {σ : am_I} {ρ : am_R} {g : am_J} {τ : am_T} {Q : am_Q} {x0 x1 x2 x3 : Value} {a : Nat} {j : Int32} (ht : τ.1 a = 15) (hj : am_inb j (τ.2.1 a) = true) : AW d 279 1268 [x0, x1, x2, x3] (.int j :: .ref a :: st) σ ρ g τ Q = AW d 279 1269 [x0, x1, x2, x3] (.int (σ a j.toNatClampNeg) :: st) σ ρ g τ Q := aw_ial m279 d279_1268 rfl ht hj
theorem d279_1269 : decode cL_law 1269 = .ok (.aload_n 0, 1) := by decide +kernel
theorem s279_1269 {d : Nat} {st : List Value} {σ : am_I} {ρ : am_R} {g : am_J} {τ : am_T} {Q : am_Q} {x1 x2 x3 : Value} {v : Nat} : AW d 279 1269 [.ref v, x1, x2, x3] (st) σ ρ g τ Q = AW d 279 1270 [.ref v, x1, x2, x3] (.ref v :: st) σ ρ g τ Q := aw_lc m279 d279_1269 rfl rfl rfl
theorem d279_1270 : decode cL_law 1270 = .ok (.iload_n 3, 1) := by decide +kernel
theorem s279_1270 {d : Nat} {st : List Value} {σ : am_I} {ρ : am_R} {g : am_J} {τ : am_T} {Q : am_Q} {x0 x1 x2 : Value} {v : Int32} : AW d 279 1270 [x0, x1, x2, .int v] (st) σ ρ g τ Q = AW d 279 1271 [x0, x1, x2, .int v] (.int v :: st) σ ρ g τ Q := aw_lc m279 d279_1270 rfl rfl rfl
theorem d279_1271 : decode cL_law 1271 = .ok (.iconst 2, 1) := by decide +kernel
theorem s279_1271 {d : Nat} {st : List Value} {σ : am_I} {ρ : am_R} {g : am_J} {τ : am_T} {Q : am_Q} {x0 x1 x2 x3 : Value} : AW d 279 1271 [x0, x1, x2, x3] (st) σ ρ g τ Q = AW d 279 1272 [x0, x1, x2, x3] (.int 2 :: st) σ ρ g τ Q := aw_lc m279 d279_1271 rfl rfl rfl
theorem d279_1272 : decode cL_law 1272 = .ok (.iadd, 1) := by decide +kernel
theorem s279_1272 {d : Nat} {st : List Value} {σ : am_I} {ρ : am_R} {g : am_J} {τ : am_T} {Q : am_Q} {x0 x1 x2 x3 : Value} {v w : Int32} : AW d 279 1272 [x0, x1, x2, x3] (.int w :: .int v :: st) σ ρ g τ Q = AW d 279 1273 [x0, x1, x2, x3] (.int (v + w) :: st) σ ρ g τ Q := aw_lc m279 d279_1272 rfl rfl rfl
theorem d279_1273 : decode cL_law 1273 = .ok (.iaload, 1) := by decide +kernel
theorem s279_1273 {d : Nat} {st : List Value} {σ : am_I} {ρ : am_R} {g : am_J} {τ : am_T} {Q : am_Q} {x0 x1 x2 x3 : Value} {a : Nat} {j : Int32} (ht : τ.1 a = 15) (hj : am_inb j (τ.2.1 a) = true) : AW d 279 1273 [x0, x1, x2, x3] (.int j :: .ref a :: st) σ ρ g τ Q = AW d 279 1274 [x0, x1, x2, x3] (.int (σ a j.toNatClampNeg) :: st) σ ρ g τ Q := aw_ial m279 d279_1273 rfl ht hj
theorem d279_1274 : decode cL_law 1274 = .ok (.invokevirtual 132, 3) := by decide +kernel
theorem s279_1274 {d : Nat} {st : List Value} {σ : am_I} {ρ : am_R} {g : am_J} {τ : am_T} {Q : am_Q} {x0 x1 x2 x3 : Value} {p0 : Nat} {p1 : Int32} {p2 : Int32} (ht : τ.1 p0 = 12) (hs : st.length ≤ 4) : AW (d + 1) 279 1274 [x0, x1, x2, x3] (.int p2 :: .int p1 :: .ref p0 :: st) σ ρ g τ Q = AW d 237 0 [.ref p0, .int p1, .int p2, am_jk] [] σ ρ g τ (fun r9 σ ρ g τ => AW (d + 1) 279 1277 [x0, x1, x2, x3] (r9.toList ++ st) σ ρ g τ Q) := aw_cv m279 d279_1274 rfl m237 rfl rfl (by decide) en237 ok237 rfl ht hs
theorem d279_1277 : decode cL_law 1277 = .ok (.if_icmp .eq 536, 3) := by decide +kernel
theorem s279_1277 {d : Nat} {st : List Value} {σ : am_I} {ρ : am_R} {g : am_J} {τ : am_T} {Q : am_Q} {x0 x1 x2 x3 : Value} {v w : Int32} : AW d 279 1277 [x0, x1, x2, x3] (.int w :: .int v :: st) σ ρ g τ Q = if v = w then AW d 279 1813 [x0, x1, x2, x3] (st) σ ρ g τ Q else AW d 279 1280 [x0, x1, x2, x3] (st) σ ρ g τ Q := aw_br m279 d279_1277 rfl rfl rfl
theorem d279_1280 : decode cL_law 1280 = .ok (.iconst 0, 1) := by decide +kernel
theorem s279_1280 {d : Nat} {st : List Value} {σ : am_I} {ρ : am_R} {g : am_J} {τ : am_T} {Q : am_Q} {x0 x1 x2 x3 : Value} : AW d 279 1280 [x0, x1, x2, x3] (st) σ ρ g τ Q = AW d 279 1281 [x0, x1, x2, x3] (.int 0 :: st) σ ρ g τ Q := aw_lc m279 d279_1280 rfl rfl rfl
theorem d279_1281 : decode cL_law 1281 = .ok (.ireturn, 1) := by decide +kernel
theorem s279_1281 {d : Nat} {σ : am_I} {ρ : am_R} {g : am_J} {τ : am_T} {Q : am_Q} {x0 x1 x2 x3 : Value} {v : Int32} (hv : am_b01 v = true) : AW d 279 1281 [x0, x1, x2, x3] ([.int v]) σ ρ g τ Q = Q (some (.int v)) σ ρ g τ := aw_rz m279 d279_1281 rfl hv
theorem d279_1282 : decode cL_law 1282 = .ok (.aload_n 1, 1) := by decide +kernel
theorem s279_1282 {d : Nat} {st : List Value} {σ : am_I} {ρ : am_R} {g : am_J} {τ : am_T} {Q : am_Q} {x0 x2 x3 : Value} {v : Nat} : AW d 279 1282 [x0, .ref v, x2, x3] (st) σ ρ g τ Q = AW d 279 1283 [x0, .ref v, x2, x3] (.ref v :: st) σ ρ g τ Q := aw_lc m279 d279_1282 rfl rfl rfl
theorem d279_1283 : decode cL_law 1283 = .ok (.aload_n 0, 1) := by decide +kernel
theorem s279_1283 {d : Nat} {st : List Value} {σ : am_I} {ρ : am_R} {g : am_J} {τ : am_T} {Q : am_Q} {x1 x2 x3 : Value} {v : Nat} : AW d 279 1283 [.ref v, x1, x2, x3] (st) σ ρ g τ Q = AW d 279 1284 [.ref v, x1, x2, x3] (.ref v :: st) σ ρ g τ Q := aw_lc m279 d279_1283 rfl rfl rfl
theorem d279_1284 : decode cL_law 1284 = .ok (.iload_n 3, 1) := by decide +kernel
theorem s279_1284 {d : Nat} {st : List Value} {σ : am_I} {ρ : am_R} {g : am_J} {τ : am_T} {Q : am_Q} {x0 x1 x2 : Value} {v : Int32} : AW d 279 1284 [x0, x1, x2, .int v] (st) σ ρ g τ Q = AW d 279 1285 [x0, x1, x2, .int v] (.int v :: st) σ ρ g τ Q := aw_lc m279 d279_1284 rfl rfl rfl
theorem d279_1285 : decode cL_law 1285 = .ok (.iconst 1, 1) := by decide +kernel
theorem s279_1285 {d : Nat} {st : List Value} {σ : am_I} {ρ : am_R} {g : am_J} {τ : am_T} {Q : am_Q} {x0 x1 x2 x3 : Value} : AW d 279 1285 [x0, x1, x2, x3] (st) σ ρ g τ Q = AW d 279 1286 [x0, x1, x2, x3] (.int 1 :: st) σ ρ g τ Q := aw_lc m279 d279_1285 rfl rfl rfl
theorem d279_1286 : decode cL_law 1286 = .ok (.iadd, 1) := by decide +kernel
theorem s279_1286 {d : Nat} {st : List Value} {σ : am_I} {ρ : am_R} {g : am_J} {τ : am_T} {Q : am_Q} {x0 x1 x2 x3 : Value} {v w : Int32} : AW d 279 1286 [x0, x1, x2, x3] (.int w :: .int v :: st) σ ρ g τ Q = AW d 279 1287 [x0, x1, x2, x3] (.int (v + w) :: st) σ ρ g τ Q := aw_lc m279 d279_1286 rfl rfl rfl
theorem d279_1287 : decode cL_law 1287 = .ok (.iaload, 1) := by decide +kernel
theorem s279_1287 {d : Nat} {st : List Value} {σ : am_I} {ρ : am_R} {g : am_J} {τ : am_T} {Q : am_Q} {x0 x1 x2 x3 : Value} {a : Nat} {j : Int32} (ht : τ.1 a = 15) (hj : am_inb j (τ.2.1 a) = true) : AW d 279 1287 [x0, x1, x2, x3] (.int j :: .ref a :: st) σ ρ g τ Q = AW d 279 1288 [x0, x1, x2, x3] (.int (σ a j.toNatClampNeg) :: st) σ ρ g τ Q := aw_ial m279 d279_1287 rfl ht hj
theorem d279_1288 : decode cL_law 1288 = .ok (.invokevirtual 133, 3) := by decide +kernel
theorem s279_1288 {d : Nat} {st : List Value} {σ : am_I} {ρ : am_R} {g : am_J} {τ : am_T} {Q : am_Q} {x0 x1 x2 x3 : Value} {p0 : Nat} {p1 : Int32} (ht : τ.1 p0 = 11) (hs : st.length ≤ 4) : AW (d + 1) 279 1288 [x0, x1, x2, x3] (.int p1 :: .ref p0 :: st) σ ρ g τ Q = AW d 142 0 [.ref p0, .int p1, am_jk, am_jk, am_jk, am_jk] [] σ ρ g τ (fun r9 σ ρ g τ => AW (d + 1) 279 1291 [x0, x1, x2, x3] (r9.toList ++ st) σ ρ g τ Q) := aw_cv m279 d279_1288 rfl m142 rfl rfl (by decide) en142 ok142 rfl ht hs
theorem d279_1291 : decode cL_law 1291 = .ok (.aload_n 2, 1) := by decide +kernel
theorem s279_1291 {d : Nat} {st : List Value} {σ : am_I} {ρ : am_R} {g : am_J} {τ : am_T} {Q : am_Q} {x0 x1 x3 : Value} {v : Nat} : AW d 279 1291 [x0, x1, .ref v, x3] (st) σ ρ g τ Q = AW d 279 1292 [x0, x1, .ref v, x3] (.ref v :: st) σ ρ g τ Q := aw_lc m279 d279_1291 rfl rfl rfl
theorem d279_1292 : decode cL_law 1292 = .ok (.aload_n 0, 1) := by decide +kernel
theorem s279_1292 {d : Nat} {st : List Value} {σ : am_I} {ρ : am_R} {g : am_J} {τ : am_T} {Q : am_Q} {x1 x2 x3 : Value} {v : Nat} : AW d 279 1292 [.ref v, x1, x2, x3] (st) σ ρ g τ Q = AW d 279 1293 [.ref v, x1, x2, x3] (.ref v :: st) σ ρ g τ Q := aw_lc m279 d279_1292 rfl rfl rfl
theorem d279_1293 : decode cL_law 1293 = .ok (.iload_n 3, 1) := by decide +kernel
theorem s279_1293 {d : Nat} {st : List Value} {σ : am_I} {ρ : am_R} {g : am_J} {τ : am_T} {Q : am_Q} {x0 x1 x2 : Value} {v : Int32} : AW d 279 1293 [x0, x1, x2, .int v] (st) σ ρ g τ Q = AW d 279 1294 [x0, x1, x2, .int v] (.int v :: st) σ ρ g τ Q := aw_lc m279 d279_1293 rfl rfl rfl
theorem d279_1294 : decode cL_law 1294 = .ok (.iconst 1, 1) := by decide +kernel
theorem s279_1294 {d : Nat} {st : List Value} {σ : am_I} {ρ : am_R} {g : am_J} {τ : am_T} {Q : am_Q} {x0 x1 x2 x3 : Value} : AW d 279 1294 [x0, x1, x2, x3] (st) σ ρ g τ Q = AW d 279 1295 [x0, x1, x2, x3] (.int 1 :: st) σ ρ g τ Q := aw_lc m279 d279_1294 rfl rfl rfl
theorem d279_1295 : decode cL_law 1295 = .ok (.iadd, 1) := by decide +kernel
theorem s279_1295 {d : Nat} {st : List Value} {σ : am_I} {ρ : am_R} {g : am_J} {τ : am_T} {Q : am_Q} {x0 x1 x2 x3 : Value} {v w : Int32} : AW d 279 1295 [x0, x1, x2, x3] (.int w :: .int v :: st) σ ρ g τ Q = AW d 279 1296 [x0, x1, x2, x3] (.int (v + w) :: st) σ ρ g τ Q := aw_lc m279 d279_1295 rfl rfl rfl
theorem d279_1296 : decode cL_law 1296 = .ok (.iaload, 1) := by decide +kernel
theorem s279_1296 {d : Nat} {st : List Value} {σ : am_I} {ρ : am_R} {g : am_J} {τ : am_T} {Q : am_Q} {x0 x1 x2 x3 : Value} {a : Nat} {j : Int32} (ht : τ.1 a = 15) (hj : am_inb j (τ.2.1 a) = true) : AW d 279 1296 [x0, x1, x2, x3] (.int j :: .ref a :: st) σ ρ g τ Q = AW d 279 1297 [x0, x1, x2, x3] (.int (σ a j.toNatClampNeg) :: st) σ ρ g τ Q := aw_ial m279 d279_1296 rfl ht hj
theorem d279_1297 : decode cL_law 1297 = .ok (.invokevirtual 136, 3) := by decide +kernel
theorem s279_1297 {d : Nat} {st : List Value} {σ : am_I} {ρ : am_R} {g : am_J} {τ : am_T} {Q : am_Q} {x0 x1 x2 x3 : Value} {p0 : Nat} {p1 : Int32} (ht : τ.1 p0 = 12) (hs : st.length ≤ 4) : AW (d + 1) 279 1297 [x0, x1, x2, x3] (.int p1 :: .ref p0 :: st) σ ρ g τ Q = AW d 240 0 [.ref p0, .int p1, am_jk, am_jk, am_jk, am_jk] [] σ ρ g τ (fun r9 σ ρ g τ => AW (d + 1) 279 1300 [x0, x1, x2, x3] (r9.toList ++ st) σ ρ g τ Q) := aw_cv m279 d279_1297 rfl m240 rfl rfl (by decide) en240 ok240 rfl ht hs
theorem d279_1300 : decode cL_law 1300 = .ok (.if_icmp .eq 513, 3) := by decide +kernel
theorem s279_1300 {d : Nat} {st : List Value} {σ : am_I} {ρ : am_R} {g : am_J} {τ : am_T} {Q : am_Q} {x0 x1 x2 x3 : Value} {v w : Int32} : AW d 279 1300 [x0, x1, x2, x3] (.int w :: .int v :: st) σ ρ g τ Q = if v = w then AW d 279 1813 [x0, x1, x2, x3] (st) σ ρ g τ Q else AW d 279 1303 [x0, x1, x2, x3] (st) σ ρ g τ Q := aw_br m279 d279_1300 rfl rfl rfl
theorem d279_1303 : decode cL_law 1303 = .ok (.iconst 0, 1) := by decide +kernel
theorem s279_1303 {d : Nat} {st : List Value} {σ : am_I} {ρ : am_R} {g : am_J} {τ : am_T} {Q : am_Q} {x0 x1 x2 x3 : Value} : AW d 279 1303 [x0, x1, x2, x3] (st) σ ρ g τ Q = AW d 279 1304 [x0, x1, x2, x3] (.int 0 :: st) σ ρ g τ Q := aw_lc m279 d279_1303 rfl rfl rfl
theorem d279_1304 : decode cL_law 1304 = .ok (.ireturn, 1) := by decide +kernel
theorem s279_1304 {d : Nat} {σ : am_I} {ρ : am_R} {g : am_J} {τ : am_T} {Q : am_Q} {x0 x1 x2 x3 : Value} {v : Int32} (hv : am_b01 v = true) : AW d 279 1304 [x0, x1, x2, x3] ([.int v]) σ ρ g τ Q = Q (some (.int v)) σ ρ g τ := aw_rz m279 d279_1304 rfl hv
theorem d279_1305 : decode cL_law 1305 = .ok (.aload_n 1, 1) := by decide +kernel
theorem s279_1305 {d : Nat} {st : List Value} {σ : am_I} {ρ : am_R} {g : am_J} {τ : am_T} {Q : am_Q} {x0 x2 x3 : Value} {v : Nat} : AW d 279 1305 [x0, .ref v, x2, x3] (st) σ ρ g τ Q = AW d 279 1306 [x0, .ref v, x2, x3] (.ref v :: st) σ ρ g τ Q := aw_lc m279 d279_1305 rfl rfl rfl
theorem d279_1306 : decode cL_law 1306 = .ok (.aload_n 0, 1) := by decide +kernel
theorem s279_1306 {d : Nat} {st : List Value} {σ : am_I} {ρ : am_R} {g : am_J} {τ : am_T} {Q : am_Q} {x1 x2 x3 : Value} {v : Nat} : AW d 279 1306 [.ref v, x1, x2, x3] (st) σ ρ g τ Q = AW d 279 1307 [.ref v, x1, x2, x3] (.ref v :: st) σ ρ g τ Q := aw_lc m279 d279_1306 rfl rfl rfl
theorem d279_1307 : decode cL_law 1307 = .ok (.iload_n 3, 1) := by decide +kernel
theorem s279_1307 {d : Nat} {st : List Value} {σ : am_I} {ρ : am_R} {g : am_J} {τ : am_T} {Q : am_Q} {x0 x1 x2 : Value} {v : Int32} : AW d 279 1307 [x0, x1, x2, .int v] (st) σ ρ g τ Q = AW d 279 1308 [x0, x1, x2, .int v] (.int v :: st) σ ρ g τ Q := aw_lc m279 d279_1307 rfl rfl rfl
theorem d279_1308 : decode cL_law 1308 = .ok (.iconst 1, 1) := by decide +kernel
theorem s279_1308 {d : Nat} {st : List Value} {σ : am_I} {ρ : am_R} {g : am_J} {τ : am_T} {Q : am_Q} {x0 x1 x2 x3 : Value} : AW d 279 1308 [x0, x1, x2, x3] (st) σ ρ g τ Q = AW d 279 1309 [x0, x1, x2, x3] (.int 1 :: st) σ ρ g τ Q := aw_lc m279 d279_1308 rfl rfl rfl
theorem d279_1309 : decode cL_law 1309 = .ok (.iadd, 1) := by decide +kernel
theorem s279_1309 {d : Nat} {st : List Value} {σ : am_I} {ρ : am_R} {g : am_J} {τ : am_T} {Q : am_Q} {x0 x1 x2 x3 : Value} {v w : Int32} : AW d 279 1309 [x0, x1, x2, x3] (.int w :: .int v :: st) σ ρ g τ Q = AW d 279 1310 [x0, x1, x2, x3] (.int (v + w) :: st) σ ρ g τ Q := aw_lc m279 d279_1309 rfl rfl rfl
theorem d279_1310 : decode cL_law 1310 = .ok (.iaload, 1) := by decide +kernel
theorem s279_1310 {d : Nat} {st : List Value} {σ : am_I} {ρ : am_R} {g : am_J} {τ : am_T} {Q : am_Q} {x0 x1 x2 x3 : Value} {a : Nat} {j : Int32} (ht : τ.1 a = 15) (hj : am_inb j (τ.2.1 a) = true) : AW d 279 1310 [x0, x1, x2, x3] (.int j :: .ref a :: st) σ ρ g τ Q = AW d 279 1311 [x0, x1, x2, x3] (.int (σ a j.toNatClampNeg) :: st) σ ρ g τ Q := aw_ial m279 d279_1310 rfl ht hj
theorem d279_1311 : decode cL_law 1311 = .ok (.aload_n 0, 1) := by decide +kernel
theorem s279_1311 {d : Nat} {st : List Value} {σ : am_I} {ρ : am_R} {g : am_J} {τ : am_T} {Q : am_Q} {x1 x2 x3 : Value} {v : Nat} : AW d 279 1311 [.ref v, x1, x2, x3] (st) σ ρ g τ Q = AW d 279 1312 [.ref v, x1, x2, x3] (.ref v :: st) σ ρ g τ Q := aw_lc m279 d279_1311 rfl rfl rfl
theorem d279_1312 : decode cL_law 1312 = .ok (.iload_n 3, 1) := by decide +kernel
theorem s279_1312 {d : Nat} {st : List Value} {σ : am_I} {ρ : am_R} {g : am_J} {τ : am_T} {Q : am_Q} {x0 x1 x2 : Value} {v : Int32} : AW d 279 1312 [x0, x1, x2, .int v] (st) σ ρ g τ Q = AW d 279 1313 [x0, x1, x2, .int v] (.int v :: st) σ ρ g τ Q := aw_lc m279 d279_1312 rfl rfl rfl
theorem d279_1313 : decode cL_law 1313 = .ok (.iconst 2, 1) := by decide +kernel
theorem s279_1313 {d : Nat} {st : List Value} {σ : am_I} {ρ : am_R} {g : am_J} {τ : am_T} {Q : am_Q} {x0 x1 x2 x3 : Value} : AW d 279 1313 [x0, x1, x2, x3] (st) σ ρ g τ Q = AW d 279 1314 [x0, x1, x2, x3] (.int 2 :: st) σ ρ g τ Q := aw_lc m279 d279_1313 rfl rfl rfl
theorem d279_1314 : decode cL_law 1314 = .ok (.iadd, 1) := by decide +kernel
theorem s279_1314 {d : Nat} {st : List Value} {σ : am_I} {ρ : am_R} {g : am_J} {τ : am_T} {Q : am_Q} {x0 x1 x2 x3 : Value} {v w : Int32} : AW d 279 1314 [x0, x1, x2, x3] (.int w :: .int v :: st) σ ρ g τ Q = AW d 279 1315 [x0, x1, x2, x3] (.int (v + w) :: st) σ ρ g τ Q := aw_lc m279 d279_1314 rfl rfl rfl
theorem d279_1315 : decode cL_law 1315 = .ok (.iaload, 1) := by decide +kernel
theorem s279_1315 {d : Nat} {st : List Value} {σ : am_I} {ρ : am_R} {g : am_J} {τ : am_T} {Q : am_Q} {x0 x1 x2 x3 : Value} {a : Nat} {j : Int32} (ht : τ.1 a = 15) (hj : am_inb j (τ.2.1 a) = true) : AW d 279 1315 [x0, x1, x2, x3] (.int j :: .ref a :: st) σ ρ g τ Q = AW d 279 1316 [x0, x1, x2, x3] (.int (σ a j.toNatClampNeg) :: st) σ ρ g τ Q := aw_ial m279 d279_1315 rfl ht hj
theorem d279_1316 : decode cL_law 1316 = .ok (.aload_n 0, 1) := by decide +kernel
theorem s279_1316 {d : Nat} {st : List Value} {σ : am_I} {ρ : am_R} {g : am_J} {τ : am_T} {Q : am_Q} {x1 x2 x3 : Value} {v : Nat} : AW d 279 1316 [.ref v, x1, x2, x3] (st) σ ρ g τ Q = AW d 279 1317 [.ref v, x1, x2, x3] (.ref v :: st) σ ρ g τ Q := aw_lc m279 d279_1316 rfl rfl rfl
theorem d279_1317 : decode cL_law 1317 = .ok (.iload_n 3, 1) := by decide +kernel
theorem s279_1317 {d : Nat} {st : List Value} {σ : am_I} {ρ : am_R} {g : am_J} {τ : am_T} {Q : am_Q} {x0 x1 x2 : Value} {v : Int32} : AW d 279 1317 [x0, x1, x2, .int v] (st) σ ρ g τ Q = AW d 279 1318 [x0, x1, x2, .int v] (.int v :: st) σ ρ g τ Q := aw_lc m279 d279_1317 rfl rfl rfl
theorem d279_1318 : decode cL_law 1318 = .ok (.iconst 3, 1) := by decide +kernel
theorem s279_1318 {d : Nat} {st : List Value} {σ : am_I} {ρ : am_R} {g : am_J} {τ : am_T} {Q : am_Q} {x0 x1 x2 x3 : Value} : AW d 279 1318 [x0, x1, x2, x3] (st) σ ρ g τ Q = AW d 279 1319 [x0, x1, x2, x3] (.int 3 :: st) σ ρ g τ Q := aw_lc m279 d279_1318 rfl rfl rfl
theorem d279_1319 : decode cL_law 1319 = .ok (.iadd, 1) := by decide +kernel
theorem s279_1319 {d : Nat} {st : List Value} {σ : am_I} {ρ : am_R} {g : am_J} {τ : am_T} {Q : am_Q} {x0 x1 x2 x3 : Value} {v w : Int32} : AW d 279 1319 [x0, x1, x2, x3] (.int w :: .int v :: st) σ ρ g τ Q = AW d 279 1320 [x0, x1, x2, x3] (.int (v + w) :: st) σ ρ g τ Q := aw_lc m279 d279_1319 rfl rfl rfl
theorem d279_1320 : decode cL_law 1320 = .ok (.iaload, 1) := by decide +kernel
theorem s279_1320 {d : Nat} {st : List Value} {σ : am_I} {ρ : am_R} {g : am_J} {τ : am_T} {Q : am_Q} {x0 x1 x2 x3 : Value} {a : Nat} {j : Int32} (ht : τ.1 a = 15) (hj : am_inb j (τ.2.1 a) = true) : AW d 279 1320 [x0, x1, x2, x3] (.int j :: .ref a :: st) σ ρ g τ Q = AW d 279 1321 [x0, x1, x2, x3] (.int (σ a j.toNatClampNeg) :: st) σ ρ g τ Q := aw_ial m279 d279_1320 rfl ht hj
theorem d279_1321 : decode cL_law 1321 = .ok (.aload_n 0, 1) := by decide +kernel
theorem s279_1321 {d : Nat} {st : List Value} {σ : am_I} {ρ : am_R} {g : am_J} {τ : am_T} {Q : am_Q} {x1 x2 x3 : Value} {v : Nat} : AW d 279 1321 [.ref v, x1, x2, x3] (st) σ ρ g τ Q = AW d 279 1322 [.ref v, x1, x2, x3] (.ref v :: st) σ ρ g τ Q := aw_lc m279 d279_1321 rfl rfl rfl
theorem d279_1322 : decode cL_law 1322 = .ok (.iload_n 3, 1) := by decide +kernel
theorem s279_1322 {d : Nat} {st : List Value} {σ : am_I} {ρ : am_R} {g : am_J} {τ : am_T} {Q : am_Q} {x0 x1 x2 : Value} {v : Int32} : AW d 279 1322 [x0, x1, x2, .int v] (st) σ ρ g τ Q = AW d 279 1323 [x0, x1, x2, .int v] (.int v :: st) σ ρ g τ Q := aw_lc m279 d279_1322 rfl rfl rfl
theorem d279_1323 : decode cL_law 1323 = .ok (.iconst 4, 1) := by decide +kernel
theorem s279_1323 {d : Nat} {st : List Value} {σ : am_I} {ρ : am_R} {g : am_J} {τ : am_T} {Q : am_Q} {x0 x1 x2 x3 : Value} : AW d 279 1323 [x0, x1, x2, x3] (st) σ ρ g τ Q = AW d 279 1324 [x0, x1, x2, x3] (.int 4 :: st) σ ρ g τ Q := aw_lc m279 d279_1323 rfl rfl rfl
theorem d279_1324 : decode cL_law 1324 = .ok (.iadd, 1) := by decide +kernel
theorem s279_1324 {d : Nat} {st : List Value} {σ : am_I} {ρ : am_R} {g : am_J} {τ : am_T} {Q : am_Q} {x0 x1 x2 x3 : Value} {v w : Int32} : AW d 279 1324 [x0, x1, x2, x3] (.int w :: .int v :: st) σ ρ g τ Q = AW d 279 1325 [x0, x1, x2, x3] (.int (v + w) :: st) σ ρ g τ Q := aw_lc m279 d279_1324 rfl rfl rfl
theorem d279_1325 : decode cL_law 1325 = .ok (.iaload, 1) := by decide +kernel
theorem s279_1325 {d : Nat} {st : List Value} {σ : am_I} {ρ : am_R} {g : am_J} {τ : am_T} {Q : am_Q} {x0 x1 x2 x3 : Value} {a : Nat} {j : Int32} (ht : τ.1 a = 15) (hj : am_inb j (τ.2.1 a) = true) : AW d 279 1325 [x0, x1, x2, x3] (.int j :: .ref a :: st) σ ρ g τ Q = AW d 279 1326 [x0, x1, x2, x3] (.int (σ a j.toNatClampNeg) :: st) σ ρ g τ Q := aw_ial m279 d279_1325 rfl ht hj
theorem d279_1326 : decode cL_law 1326 = .ok (.invokevirtual 137, 3) := by decide +kernel
theorem s279_1326 {d : Nat} {st : List Value} {σ : am_I} {ρ : am_R} {g : am_J} {τ : am_T} {Q : am_Q} {x0 x1 x2 x3 : Value} {p0 : Nat} {p1 : Int32} {p2 : Int32} {p3 : Int32} {p4 : Int32} (ht : τ.1 p0 = 11) (hs : st.length ≤ 4) : AW (d + 1) 279 1326 [x0, x1, x2, x3] (.int p4 :: .int p3 :: .int p2 :: .int p1 :: .ref p0 :: st) σ ρ g τ Q = AW d 143 0 [.ref p0, .int p1, .int p2, .int p3, .int p4, am_jk] [] σ ρ g τ (fun r9 σ ρ g τ => AW (d + 1) 279 1329 [x0, x1, x2, x3] (r9.toList ++ st) σ ρ g τ Q) := aw_cv m279 d279_1326 rfl m143 rfl rfl (by decide) en143 ok143 rfl ht hs
theorem d279_1329 : decode cL_law 1329 = .ok (.aload_n 2, 1) := by decide +kernel
theorem s279_1329 {d : Nat} {st : List Value} {σ : am_I} {ρ : am_R} {g : am_J} {τ : am_T} {Q : am_Q} {x0 x1 x3 : Value} {v : Nat} : AW d 279 1329 [x0, x1, .ref v, x3] (st) σ ρ g τ Q = AW d 279 1330 [x0, x1, .ref v, x3] (.ref v :: st) σ ρ g τ Q := aw_lc m279 d279_1329 rfl rfl rfl
theorem d279_1330 : decode cL_law 1330 = .ok (.aload_n 0, 1) := by decide +kernel
theorem s279_1330 {d : Nat} {st : List Value} {σ : am_I} {ρ : am_R} {g : am_J} {τ : am_T} {Q : am_Q} {x1 x2 x3 : Value} {v : Nat} : AW d 279 1330 [.ref v, x1, x2, x3] (st) σ ρ g τ Q = AW d 279 1331 [.ref v, x1, x2, x3] (.ref v :: st) σ ρ g τ Q := aw_lc m279 d279_1330 rfl rfl rfl
theorem d279_1331 : decode cL_law 1331 = .ok (.iload_n 3, 1) := by decide +kernel
theorem s279_1331 {d : Nat} {st : List Value} {σ : am_I} {ρ : am_R} {g : am_J} {τ : am_T} {Q : am_Q} {x0 x1 x2 : Value} {v : Int32} : AW d 279 1331 [x0, x1, x2, .int v] (st) σ ρ g τ Q = AW d 279 1332 [x0, x1, x2, .int v] (.int v :: st) σ ρ g τ Q := aw_lc m279 d279_1331 rfl rfl rfl
theorem d279_1332 : decode cL_law 1332 = .ok (.iconst 1, 1) := by decide +kernel
theorem s279_1332 {d : Nat} {st : List Value} {σ : am_I} {ρ : am_R} {g : am_J} {τ : am_T} {Q : am_Q} {x0 x1 x2 x3 : Value} : AW d 279 1332 [x0, x1, x2, x3] (st) σ ρ g τ Q = AW d 279 1333 [x0, x1, x2, x3] (.int 1 :: st) σ ρ g τ Q := aw_lc m279 d279_1332 rfl rfl rfl
theorem d279_1333 : decode cL_law 1333 = .ok (.iadd, 1) := by decide +kernel
theorem s279_1333 {d : Nat} {st : List Value} {σ : am_I} {ρ : am_R} {g : am_J} {τ : am_T} {Q : am_Q} {x0 x1 x2 x3 : Value} {v w : Int32} : AW d 279 1333 [x0, x1, x2, x3] (.int w :: .int v :: st) σ ρ g τ Q = AW d 279 1334 [x0, x1, x2, x3] (.int (v + w) :: st) σ ρ g τ Q := aw_lc m279 d279_1333 rfl rfl rfl
theorem d279_1334 : decode cL_law 1334 = .ok (.iaload, 1) := by decide +kernel
theorem s279_1334 {d : Nat} {st : List Value} {σ : am_I} {ρ : am_R} {g : am_J} {τ : am_T} {Q : am_Q} {x0 x1 x2 x3 : Value} {a : Nat} {j : Int32} (ht : τ.1 a = 15) (hj : am_inb j (τ.2.1 a) = true) : AW d 279 1334 [x0, x1, x2, x3] (.int j :: .ref a :: st) σ ρ g τ Q = AW d 279 1335 [x0, x1, x2, x3] (.int (σ a j.toNatClampNeg) :: st) σ ρ g τ Q := aw_ial m279 d279_1334 rfl ht hj
theorem d279_1335 : decode cL_law 1335 = .ok (.aload_n 0, 1) := by decide +kernel
theorem s279_1335 {d : Nat} {st : List Value} {σ : am_I} {ρ : am_R} {g : am_J} {τ : am_T} {Q : am_Q} {x1 x2 x3 : Value} {v : Nat} : AW d 279 1335 [.ref v, x1, x2, x3] (st) σ ρ g τ Q = AW d 279 1336 [.ref v, x1, x2, x3] (.ref v :: st) σ ρ g τ Q := aw_lc m279 d279_1335 rfl rfl rfl
theorem d279_1336 : decode cL_law 1336 = .ok (.iload_n 3, 1) := by decide +kernel
theorem s279_1336 {d : Nat} {st : List Value} {σ : am_I} {ρ : am_R} {g : am_J} {τ : am_T} {Q : am_Q} {x0 x1 x2 : Value} {v : Int32} : AW d 279 1336 [x0, x1, x2, .int v] (st) σ ρ g τ Q = AW d 279 1337 [x0, x1, x2, .int v] (.int v :: st) σ ρ g τ Q := aw_lc m279 d279_1336 rfl rfl rfl
theorem d279_1337 : decode cL_law 1337 = .ok (.iconst 2, 1) := by decide +kernel
theorem s279_1337 {d : Nat} {st : List Value} {σ : am_I} {ρ : am_R} {g : am_J} {τ : am_T} {Q : am_Q} {x0 x1 x2 x3 : Value} : AW d 279 1337 [x0, x1, x2, x3] (st) σ ρ g τ Q = AW d 279 1338 [x0, x1, x2, x3] (.int 2 :: st) σ ρ g τ Q := aw_lc m279 d279_1337 rfl rfl rfl
theorem d279_1338 : decode cL_law 1338 = .ok (.iadd, 1) := by decide +kernel
theorem s279_1338 {d : Nat} {st : List Value} {σ : am_I} {ρ : am_R} {g : am_J} {τ : am_T} {Q : am_Q} {x0 x1 x2 x3 : Value} {v w : Int32} : AW d 279 1338 [x0, x1, x2, x3] (.int w :: .int v :: st) σ ρ g τ Q = AW d 279 1339 [x0, x1, x2, x3] (.int (v + w) :: st) σ ρ g τ Q := aw_lc m279 d279_1338 rfl rfl rfl
theorem d279_1339 : decode cL_law 1339 = .ok (.iaload, 1) := by decide +kernel
theorem s279_1339 {d : Nat} {st : List Value} {σ : am_I} {ρ : am_R} {g : am_J} {τ : am_T} {Q : am_Q} {x0 x1 x2 x3 : Value} {a : Nat} {j : Int32} (ht : τ.1 a = 15) (hj : am_inb j (τ.2.1 a) = true) : AW d 279 1339 [x0, x1, x2, x3] (.int j :: .ref a :: st) σ ρ g τ Q = AW d 279 1340 [x0, x1, x2, x3] (.int (σ a j.toNatClampNeg) :: st) σ ρ g τ Q := aw_ial m279 d279_1339 rfl ht hj
theorem d279_1340 : decode cL_law 1340 = .ok (.aload_n 0, 1) := by decide +kernel
theorem s279_1340 {d : Nat} {st : List Value} {σ : am_I} {ρ : am_R} {g : am_J} {τ : am_T} {Q : am_Q} {x1 x2 x3 : Value} {v : Nat} : AW d 279 1340 [.ref v, x1, x2, x3] (st) σ ρ g τ Q = AW d 279 1341 [.ref v, x1, x2, x3] (.ref v :: st) σ ρ g τ Q := aw_lc m279 d279_1340 rfl rfl rfl
theorem d279_1341 : decode cL_law 1341 = .ok (.iload_n 3, 1) := by decide +kernel
theorem s279_1341 {d : Nat} {st : List Value} {σ : am_I} {ρ : am_R} {g : am_J} {τ : am_T} {Q : am_Q} {x0 x1 x2 : Value} {v : Int32} : AW d 279 1341 [x0, x1, x2, .int v] (st) σ ρ g τ Q = AW d 279 1342 [x0, x1, x2, .int v] (.int v :: st) σ ρ g τ Q := aw_lc m279 d279_1341 rfl rfl rfl
theorem d279_1342 : decode cL_law 1342 = .ok (.iconst 3, 1) := by decide +kernel
theorem s279_1342 {d : Nat} {st : List Value} {σ : am_I} {ρ : am_R} {g : am_J} {τ : am_T} {Q : am_Q} {x0 x1 x2 x3 : Value} : AW d 279 1342 [x0, x1, x2, x3] (st) σ ρ g τ Q = AW d 279 1343 [x0, x1, x2, x3] (.int 3 :: st) σ ρ g τ Q := aw_lc m279 d279_1342 rfl rfl rfl
theorem d279_1343 : decode cL_law 1343 = .ok (.iadd, 1) := by decide +kernel
theorem s279_1343 {d : Nat} {st : List Value} {σ : am_I} {ρ : am_R} {g : am_J} {τ : am_T} {Q : am_Q} {x0 x1 x2 x3 : Value} {v w : Int32} : AW d 279 1343 [x0, x1, x2, x3] (.int w :: .int v :: st) σ ρ g τ Q = AW d 279 1344 [x0, x1, x2, x3] (.int (v + w) :: st) σ ρ g τ Q := aw_lc m279 d279_1343 rfl rfl rfl
theorem d279_1344 : decode cL_law 1344 = .ok (.iaload, 1) := by decide +kernel
theorem s279_1344 {d : Nat} {st : List Value} {σ : am_I} {ρ : am_R} {g : am_J} {τ : am_T} {Q : am_Q} {x0 x1 x2 x3 : Value} {a : Nat} {j : Int32} (ht : τ.1 a = 15) (hj : am_inb j (τ.2.1 a) = true) : AW d 279 1344 [x0, x1, x2, x3] (.int j :: .ref a :: st) σ ρ g τ Q = AW d 279 1345 [x0, x1, x2, x3] (.int (σ a j.toNatClampNeg) :: st) σ ρ g τ Q := aw_ial m279 d279_1344 rfl ht hj
theorem d279_1345 : decode cL_law 1345 = .ok (.aload_n 0, 1) := by decide +kernel
theorem s279_1345 {d : Nat} {st : List Value} {σ : am_I} {ρ : am_R} {g : am_J} {τ : am_T} {Q : am_Q} {x1 x2 x3 : Value} {v : Nat} : AW d 279 1345 [.ref v, x1, x2, x3] (st) σ ρ g τ Q = AW d 279 1346 [.ref v, x1, x2, x3] (.ref v :: st) σ ρ g τ Q := aw_lc m279 d279_1345 rfl rfl rfl
theorem d279_1346 : decode cL_law 1346 = .ok (.iload_n 3, 1) := by decide +kernel
theorem s279_1346 {d : Nat} {st : List Value} {σ : am_I} {ρ : am_R} {g : am_J} {τ : am_T} {Q : am_Q} {x0 x1 x2 : Value} {v : Int32} : AW d 279 1346 [x0, x1, x2, .int v] (st) σ ρ g τ Q = AW d 279 1347 [x0, x1, x2, .int v] (.int v :: st) σ ρ g τ Q := aw_lc m279 d279_1346 rfl rfl rfl
theorem d279_1347 : decode cL_law 1347 = .ok (.iconst 4, 1) := by decide +kernel
theorem s279_1347 {d : Nat} {st : List Value} {σ : am_I} {ρ : am_R} {g : am_J} {τ : am_T} {Q : am_Q} {x0 x1 x2 x3 : Value} : AW d 279 1347 [x0, x1, x2, x3] (st) σ ρ g τ Q = AW d 279 1348 [x0, x1, x2, x3] (.int 4 :: st) σ ρ g τ Q := aw_lc m279 d279_1347 rfl rfl rfl
theorem d279_1348 : decode cL_law 1348 = .ok (.iadd, 1) := by decide +kernel
theorem s279_1348 {d : Nat} {st : List Value} {σ : am_I} {ρ : am_R} {g : am_J} {τ : am_T} {Q : am_Q} {x0 x1 x2 x3 : Value} {v w : Int32} : AW d 279 1348 [x0, x1, x2, x3] (.int w :: .int v :: st) σ ρ g τ Q = AW d 279 1349 [x0, x1, x2, x3] (.int (v + w) :: st) σ ρ g τ Q := aw_lc m279 d279_1348 rfl rfl rfl
theorem d279_1349 : decode cL_law 1349 = .ok (.iaload, 1) := by decide +kernel
theorem s279_1349 {d : Nat} {st : List Value} {σ : am_I} {ρ : am_R} {g : am_J} {τ : am_T} {Q : am_Q} {x0 x1 x2 x3 : Value} {a : Nat} {j : Int32} (ht : τ.1 a = 15) (hj : am_inb j (τ.2.1 a) = true) : AW d 279 1349 [x0, x1, x2, x3] (.int j :: .ref a :: st) σ ρ g τ Q = AW d 279 1350 [x0, x1, x2, x3] (.int (σ a j.toNatClampNeg) :: st) σ ρ g τ Q := aw_ial m279 d279_1349 rfl ht hj
theorem d279_1350 : decode cL_law 1350 = .ok (.invokevirtual 140, 3) := by decide +kernel
theorem s279_1350 {d : Nat} {st : List Value} {σ : am_I} {ρ : am_R} {g : am_J} {τ : am_T} {Q : am_Q} {x0 x1 x2 x3 : Value} {p0 : Nat} {p1 : Int32} {p2 : Int32} {p3 : Int32} {p4 : Int32} (ht : τ.1 p0 = 12) (hs : st.length ≤ 4) : AW (d + 1) 279 1350 [x0, x1, x2, x3] (.int p4 :: .int p3 :: .int p2 :: .int p1 :: .ref p0 :: st) σ ρ g τ Q = AW d 241 0 [.ref p0, .int p1, .int p2, .int p3, .int p4, am_jk] [] σ ρ g τ (fun r9 σ ρ g τ => AW (d + 1) 279 1353 [x0, x1, x2, x3] (r9.toList ++ st) σ ρ g τ Q) := aw_cv m279 d279_1350 rfl m241 rfl rfl (by decide) en241 ok241 rfl ht hs
theorem d279_1353 : decode cL_law 1353 = .ok (.if_icmp .eq 460, 3) := by decide +kernel
theorem s279_1353 {d : Nat} {st : List Value} {σ : am_I} {ρ : am_R} {g : am_J} {τ : am_T} {Q : am_Q} {x0 x1 x2 x3 : Value} {v w : Int32} : AW d 279 1353 [x0, x1, x2, x3] (.int w :: .int v :: st) σ ρ g τ Q = if v = w then AW d 279 1813 [x0, x1, x2, x3] (st) σ ρ g τ Q else AW d 279 1356 [x0, x1, x2, x3] (st) σ ρ g τ Q := aw_br m279 d279_1353 rfl rfl rfl
theorem d279_1356 : decode cL_law 1356 = .ok (.iconst 0, 1) := by decide +kernel
theorem s279_1356 {d : Nat} {st : List Value} {σ : am_I} {ρ : am_R} {g : am_J} {τ : am_T} {Q : am_Q} {x0 x1 x2 x3 : Value} : AW d 279 1356 [x0, x1, x2, x3] (st) σ ρ g τ Q = AW d 279 1357 [x0, x1, x2, x3] (.int 0 :: st) σ ρ g τ Q := aw_lc m279 d279_1356 rfl rfl rfl
theorem d279_1357 : decode cL_law 1357 = .ok (.ireturn, 1) := by decide +kernel
theorem s279_1357 {d : Nat} {σ : am_I} {ρ : am_R} {g : am_J} {τ : am_T} {Q : am_Q} {x0 x1 x2 x3 : Value} {v : Int32} (hv : am_b01 v = true) : AW d 279 1357 [x0, x1, x2, x3] ([.int v]) σ ρ g τ Q = Q (some (.int v)) σ ρ g τ := aw_rz m279 d279_1357 rfl hv
theorem d279_1358 : decode cL_law 1358 = .ok (.aload_n 1, 1) := by decide +kernel
theorem s279_1358 {d : Nat} {st : List Value} {σ : am_I} {ρ : am_R} {g : am_J} {τ : am_T} {Q : am_Q} {x0 x2 x3 : Value} {v : Nat} : AW d 279 1358 [x0, .ref v, x2, x3] (st) σ ρ g τ Q = AW d 279 1359 [x0, .ref v, x2, x3] (.ref v :: st) σ ρ g τ Q := aw_lc m279 d279_1358 rfl rfl rfl
theorem d279_1359 : decode cL_law 1359 = .ok (.aload_n 0, 1) := by decide +kernel
theorem s279_1359 {d : Nat} {st : List Value} {σ : am_I} {ρ : am_R} {g : am_J} {τ : am_T} {Q : am_Q} {x1 x2 x3 : Value} {v : Nat} : AW d 279 1359 [.ref v, x1, x2, x3] (st) σ ρ g τ Q = AW d 279 1360 [.ref v, x1, x2, x3] (.ref v :: st) σ ρ g τ Q := aw_lc m279 d279_1359 rfl rfl rfl
theorem d279_1360 : decode cL_law 1360 = .ok (.iload_n 3, 1) := by decide +kernel
theorem s279_1360 {d : Nat} {st : List Value} {σ : am_I} {ρ : am_R} {g : am_J} {τ : am_T} {Q : am_Q} {x0 x1 x2 : Value} {v : Int32} : AW d 279 1360 [x0, x1, x2, .int v] (st) σ ρ g τ Q = AW d 279 1361 [x0, x1, x2, .int v] (.int v :: st) σ ρ g τ Q := aw_lc m279 d279_1360 rfl rfl rfl
theorem d279_1361 : decode cL_law 1361 = .ok (.iconst 1, 1) := by decide +kernel
theorem s279_1361 {d : Nat} {st : List Value} {σ : am_I} {ρ : am_R} {g : am_J} {τ : am_T} {Q : am_Q} {x0 x1 x2 x3 : Value} : AW d 279 1361 [x0, x1, x2, x3] (st) σ ρ g τ Q = AW d 279 1362 [x0, x1, x2, x3] (.int 1 :: st) σ ρ g τ Q := aw_lc m279 d279_1361 rfl rfl rfl
theorem d279_1362 : decode cL_law 1362 = .ok (.iadd, 1) := by decide +kernel
theorem s279_1362 {d : Nat} {st : List Value} {σ : am_I} {ρ : am_R} {g : am_J} {τ : am_T} {Q : am_Q} {x0 x1 x2 x3 : Value} {v w : Int32} : AW d 279 1362 [x0, x1, x2, x3] (.int w :: .int v :: st) σ ρ g τ Q = AW d 279 1363 [x0, x1, x2, x3] (.int (v + w) :: st) σ ρ g τ Q := aw_lc m279 d279_1362 rfl rfl rfl
theorem d279_1363 : decode cL_law 1363 = .ok (.iaload, 1) := by decide +kernel
theorem s279_1363 {d : Nat} {st : List Value} {σ : am_I} {ρ : am_R} {g : am_J} {τ : am_T} {Q : am_Q} {x0 x1 x2 x3 : Value} {a : Nat} {j : Int32} (ht : τ.1 a = 15) (hj : am_inb j (τ.2.1 a) = true) : AW d 279 1363 [x0, x1, x2, x3] (.int j :: .ref a :: st) σ ρ g τ Q = AW d 279 1364 [x0, x1, x2, x3] (.int (σ a j.toNatClampNeg) :: st) σ ρ g τ Q := aw_ial m279 d279_1363 rfl ht hj
theorem d279_1364 : decode cL_law 1364 = .ok (.invokevirtual 141, 3) := by decide +kernel
theorem s279_1364 {d : Nat} {st : List Value} {σ : am_I} {ρ : am_R} {g : am_J} {τ : am_T} {Q : am_Q} {x0 x1 x2 x3 : Value} {p0 : Nat} {p1 : Int32} (ht : τ.1 p0 = 11) (hs : st.length ≤ 4) : AW (d + 1) 279 1364 [x0, x1, x2, x3] (.int p1 :: .ref p0 :: st) σ ρ g τ Q = AW d 144 0 [.ref p0, .int p1, am_jk, am_jk, am_jk, am_jk, am_jk, am_jk] [] σ ρ g τ (fun r9 σ ρ g τ => AW (d + 1) 279 1367 [x0, x1, x2, x3] (r9.toList ++ st) σ ρ g τ Q) := aw_cv m279 d279_1364 rfl m144 rfl rfl (by decide) en144 ok144 rfl ht hs
theorem d279_1367 : decode cL_law 1367 = .ok (.aload_n 2, 1) := by decide +kernel
theorem s279_1367 {d : Nat} {st : List Value} {σ : am_I} {ρ : am_R} {g : am_J} {τ : am_T} {Q : am_Q} {x0 x1 x3 : Value} {v : Nat} : AW d 279 1367 [x0, x1, .ref v, x3] (st) σ ρ g τ Q = AW d 279 1368 [x0, x1, .ref v, x3] (.ref v :: st) σ ρ g τ Q := aw_lc m279 d279_1367 rfl rfl rfl
theorem d279_1368 : decode cL_law 1368 = .ok (.aload_n 0, 1) := by decide +kernel
theorem s279_1368 {d : Nat} {st : List Value} {σ : am_I} {ρ : am_R} {g : am_J} {τ : am_T} {Q : am_Q} {x1 x2 x3 : Value} {v : Nat} : AW d 279 1368 [.ref v, x1, x2, x3] (st) σ ρ g τ Q = AW d 279 1369 [.ref v, x1, x2, x3] (.ref v :: st) σ ρ g τ Q := aw_lc m279 d279_1368 rfl rfl rfl
theorem d279_1369 : decode cL_law 1369 = .ok (.iload_n 3, 1) := by decide +kernel
theorem s279_1369 {d : Nat} {st : List Value} {σ : am_I} {ρ : am_R} {g : am_J} {τ : am_T} {Q : am_Q} {x0 x1 x2 : Value} {v : Int32} : AW d 279 1369 [x0, x1, x2, .int v] (st) σ ρ g τ Q = AW d 279 1370 [x0, x1, x2, .int v] (.int v :: st) σ ρ g τ Q := aw_lc m279 d279_1369 rfl rfl rfl
theorem d279_1370 : decode cL_law 1370 = .ok (.iconst 1, 1) := by decide +kernel
theorem s279_1370 {d : Nat} {st : List Value} {σ : am_I} {ρ : am_R} {g : am_J} {τ : am_T} {Q : am_Q} {x0 x1 x2 x3 : Value} : AW d 279 1370 [x0, x1, x2, x3] (st) σ ρ g τ Q = AW d 279 1371 [x0, x1, x2, x3] (.int 1 :: st) σ ρ g τ Q := aw_lc m279 d279_1370 rfl rfl rfl
theorem d279_1371 : decode cL_law 1371 = .ok (.iadd, 1) := by decide +kernel
theorem s279_1371 {d : Nat} {st : List Value} {σ : am_I} {ρ : am_R} {g : am_J} {τ : am_T} {Q : am_Q} {x0 x1 x2 x3 : Value} {v w : Int32} : AW d 279 1371 [x0, x1, x2, x3] (.int w :: .int v :: st) σ ρ g τ Q = AW d 279 1372 [x0, x1, x2, x3] (.int (v + w) :: st) σ ρ g τ Q := aw_lc m279 d279_1371 rfl rfl rfl
theorem d279_1372 : decode cL_law 1372 = .ok (.iaload, 1) := by decide +kernel
theorem s279_1372 {d : Nat} {st : List Value} {σ : am_I} {ρ : am_R} {g : am_J} {τ : am_T} {Q : am_Q} {x0 x1 x2 x3 : Value} {a : Nat} {j : Int32} (ht : τ.1 a = 15) (hj : am_inb j (τ.2.1 a) = true) : AW d 279 1372 [x0, x1, x2, x3] (.int j :: .ref a :: st) σ ρ g τ Q = AW d 279 1373 [x0, x1, x2, x3] (.int (σ a j.toNatClampNeg) :: st) σ ρ g τ Q := aw_ial m279 d279_1372 rfl ht hj
theorem d279_1373 : decode cL_law 1373 = .ok (.invokevirtual 144, 3) := by decide +kernel
theorem s279_1373 {d : Nat} {st : List Value} {σ : am_I} {ρ : am_R} {g : am_J} {τ : am_T} {Q : am_Q} {x0 x1 x2 x3 : Value} {p0 : Nat} {p1 : Int32} (ht : τ.1 p0 = 12) (hs : st.length ≤ 4) : AW (d + 1) 279 1373 [x0, x1, x2, x3] (.int p1 :: .ref p0 :: st) σ ρ g τ Q = AW d 244 0 [.ref p0, .int p1, am_jk, am_jk, am_jk, am_jk] [] σ ρ g τ (fun r9 σ ρ g τ => AW (d + 1) 279 1376 [x0, x1, x2, x3] (r9.toList ++ st) σ ρ g τ Q) := aw_cv m279 d279_1373 rfl m244 rfl rfl (by decide) en244 ok244 rfl ht hs
theorem d279_1376 : decode cL_law 1376 = .ok (.if_icmp .eq 437, 3) := by decide +kernel
theorem s279_1376 {d : Nat} {st : List Value} {σ : am_I} {ρ : am_R} {g : am_J} {τ : am_T} {Q : am_Q} {x0 x1 x2 x3 : Value} {v w : Int32} : AW d 279 1376 [x0, x1, x2, x3] (.int w :: .int v :: st) σ ρ g τ Q = if v = w then AW d 279 1813 [x0, x1, x2, x3] (st) σ ρ g τ Q else AW d 279 1379 [x0, x1, x2, x3] (st) σ ρ g τ Q := aw_br m279 d279_1376 rfl rfl rfl
theorem d279_1379 : decode cL_law 1379 = .ok (.iconst 0, 1) := by decide +kernel
theorem s279_1379 {d : Nat} {st : List Value} {σ : am_I} {ρ : am_R} {g : am_J} {τ : am_T} {Q : am_Q} {x0 x1 x2 x3 : Value} : AW d 279 1379 [x0, x1, x2, x3] (st) σ ρ g τ Q = AW d 279 1380 [x0, x1, x2, x3] (.int 0 :: st) σ ρ g τ Q := aw_lc m279 d279_1379 rfl rfl rfl
theorem d279_1380 : decode cL_law 1380 = .ok (.ireturn, 1) := by decide +kernel
theorem s279_1380 {d : Nat} {σ : am_I} {ρ : am_R} {g : am_J} {τ : am_T} {Q : am_Q} {x0 x1 x2 x3 : Value} {v : Int32} (hv : am_b01 v = true) : AW d 279 1380 [x0, x1, x2, x3] ([.int v]) σ ρ g τ Q = Q (some (.int v)) σ ρ g τ := aw_rz m279 d279_1380 rfl hv
theorem d279_1381 : decode cL_law 1381 = .ok (.aload_n 1, 1) := by decide +kernel
theorem s279_1381 {d : Nat} {st : List Value} {σ : am_I} {ρ : am_R} {g : am_J} {τ : am_T} {Q : am_Q} {x0 x2 x3 : Value} {v : Nat} : AW d 279 1381 [x0, .ref v, x2, x3] (st) σ ρ g τ Q = AW d 279 1382 [x0, .ref v, x2, x3] (.ref v :: st) σ ρ g τ Q := aw_lc m279 d279_1381 rfl rfl rfl
theorem d279_1382 : decode cL_law 1382 = .ok (.aload_n 0, 1) := by decide +kernel
theorem s279_1382 {d : Nat} {st : List Value} {σ : am_I} {ρ : am_R} {g : am_J} {τ : am_T} {Q : am_Q} {x1 x2 x3 : Value} {v : Nat} : AW d 279 1382 [.ref v, x1, x2, x3] (st) σ ρ g τ Q = AW d 279 1383 [.ref v, x1, x2, x3] (.ref v :: st) σ ρ g τ Q := aw_lc m279 d279_1382 rfl rfl rfl
theorem d279_1383 : decode cL_law 1383 = .ok (.iload_n 3, 1) := by decide +kernel
theorem s279_1383 {d : Nat} {st : List Value} {σ : am_I} {ρ : am_R} {g : am_J} {τ : am_T} {Q : am_Q} {x0 x1 x2 : Value} {v : Int32} : AW d 279 1383 [x0, x1, x2, .int v] (st) σ ρ g τ Q = AW d 279 1384 [x0, x1, x2, .int v] (.int v :: st) σ ρ g τ Q := aw_lc m279 d279_1383 rfl rfl rfl
theorem d279_1384 : decode cL_law 1384 = .ok (.iconst 1, 1) := by decide +kernel
theorem s279_1384 {d : Nat} {st : List Value} {σ : am_I} {ρ : am_R} {g : am_J} {τ : am_T} {Q : am_Q} {x0 x1 x2 x3 : Value} : AW d 279 1384 [x0, x1, x2, x3] (st) σ ρ g τ Q = AW d 279 1385 [x0, x1, x2, x3] (.int 1 :: st) σ ρ g τ Q := aw_lc m279 d279_1384 rfl rfl rfl
theorem d279_1385 : decode cL_law 1385 = .ok (.iadd, 1) := by decide +kernel
theorem s279_1385 {d : Nat} {st : List Value} {σ : am_I} {ρ : am_R} {g : am_J} {τ : am_T} {Q : am_Q} {x0 x1 x2 x3 : Value} {v w : Int32} : AW d 279 1385 [x0, x1, x2, x3] (.int w :: .int v :: st) σ ρ g τ Q = AW d 279 1386 [x0, x1, x2, x3] (.int (v + w) :: st) σ ρ g τ Q := aw_lc m279 d279_1385 rfl rfl rfl
theorem d279_1386 : decode cL_law 1386 = .ok (.iaload, 1) := by decide +kernel
theorem s279_1386 {d : Nat} {st : List Value} {σ : am_I} {ρ : am_R} {g : am_J} {τ : am_T} {Q : am_Q} {x0 x1 x2 x3 : Value} {a : Nat} {j : Int32} (ht : τ.1 a = 15) (hj : am_inb j (τ.2.1 a) = true) : AW d 279 1386 [x0, x1, x2, x3] (.int j :: .ref a :: st) σ ρ g τ Q = AW d 279 1387 [x0, x1, x2, x3] (.int (σ a j.toNatClampNeg) :: st) σ ρ g τ Q := aw_ial m279 d279_1386 rfl ht hj
theorem d279_1387 : decode cL_law 1387 = .ok (.aload_n 0, 1) := by decide +kernel
theorem s279_1387 {d : Nat} {st : List Value} {σ : am_I} {ρ : am_R} {g : am_J} {τ : am_T} {Q : am_Q} {x1 x2 x3 : Value} {v : Nat} : AW d 279 1387 [.ref v, x1, x2, x3] (st) σ ρ g τ Q = AW d 279 1388 [.ref v, x1, x2, x3] (.ref v :: st) σ ρ g τ Q := aw_lc m279 d279_1387 rfl rfl rfl
theorem d279_1388 : decode cL_law 1388 = .ok (.iload_n 3, 1) := by decide +kernel
theorem s279_1388 {d : Nat} {st : List Value} {σ : am_I} {ρ : am_R} {g : am_J} {τ : am_T} {Q : am_Q} {x0 x1 x2 : Value} {v : Int32} : AW d 279 1388 [x0, x1, x2, .int v] (st) σ ρ g τ Q = AW d 279 1389 [x0, x1, x2, .int v] (.int v :: st) σ ρ g τ Q := aw_lc m279 d279_1388 rfl rfl rfl
theorem d279_1389 : decode cL_law 1389 = .ok (.iconst 2, 1) := by decide +kernel
theorem s279_1389 {d : Nat} {st : List Value} {σ : am_I} {ρ : am_R} {g : am_J} {τ : am_T} {Q : am_Q} {x0 x1 x2 x3 : Value} : AW d 279 1389 [x0, x1, x2, x3] (st) σ ρ g τ Q = AW d 279 1390 [x0, x1, x2, x3] (.int 2 :: st) σ ρ g τ Q := aw_lc m279 d279_1389 rfl rfl rfl
theorem d279_1390 : decode cL_law 1390 = .ok (.iadd, 1) := by decide +kernel
theorem s279_1390 {d : Nat} {st : List Value} {σ : am_I} {ρ : am_R} {g : am_J} {τ : am_T} {Q : am_Q} {x0 x1 x2 x3 : Value} {v w : Int32} : AW d 279 1390 [x0, x1, x2, x3] (.int w :: .int v :: st) σ ρ g τ Q = AW d 279 1391 [x0, x1, x2, x3] (.int (v + w) :: st) σ ρ g τ Q := aw_lc m279 d279_1390 rfl rfl rfl
theorem d279_1391 : decode cL_law 1391 = .ok (.iaload, 1) := by decide +kernel
theorem s279_1391 {d : Nat} {st : List Value} {σ : am_I} {ρ : am_R} {g : am_J} {τ : am_T} {Q : am_Q} {x0 x1 x2 x3 : Value} {a : Nat} {j : Int32} (ht : τ.1 a = 15) (hj : am_inb j (τ.2.1 a) = true) : AW d 279 1391 [x0, x1, x2, x3] (.int j :: .ref a :: st) σ ρ g τ Q = AW d 279 1392 [x0, x1, x2, x3] (.int (σ a j.toNatClampNeg) :: st) σ ρ g τ Q := aw_ial m279 d279_1391 rfl ht hj
theorem d279_1392 : decode cL_law 1392 = .ok (.invokevirtual 145, 3) := by decide +kernel
theorem s279_1392 {d : Nat} {st : List Value} {σ : am_I} {ρ : am_R} {g : am_J} {τ : am_T} {Q : am_Q} {x0 x1 x2 x3 : Value} {p0 : Nat} {p1 : Int32} {p2 : Int32} (ht : τ.1 p0 = 11) (hs : st.length ≤ 4) : AW (d + 1) 279 1392 [x0, x1, x2, x3] (.int p2 :: .int p1 :: .ref p0 :: st) σ ρ g τ Q = AW d 149 0 [.ref p0, .int p1, .int p2] [] σ ρ g τ (fun r9 σ ρ g τ => AW (d + 1) 279 1395 [x0, x1, x2, x3] (r9.toList ++ st) σ ρ g τ Q) := aw_cv m279 d279_1392 rfl m149 rfl rfl (by decide) en149 ok149 rfl ht hs
theorem d279_1395 : decode cL_law 1395 = .ok (.aload_n 2, 1) := by decide +kernel
theorem s279_1395 {d : Nat} {st : List Value} {σ : am_I} {ρ : am_R} {g : am_J} {τ : am_T} {Q : am_Q} {x0 x1 x3 : Value} {v : Nat} : AW d 279 1395 [x0, x1, .ref v, x3] (st) σ ρ g τ Q = AW d 279 1396 [x0, x1, .ref v, x3] (.ref v :: st) σ ρ g τ Q := aw_lc m279 d279_1395 rfl rfl rfl
theorem d279_1396 : decode cL_law 1396 = .ok (.aload_n 0, 1) := by decide +kernel
theorem s279_1396 {d : Nat} {st : List Value} {σ : am_I} {ρ : am_R} {g : am_J} {τ : am_T} {Q : am_Q} {x1 x2 x3 : Value} {v : Nat} : AW d 279 1396 [.ref v, x1, x2, x3] (st) σ ρ g τ Q = AW d 279 1397 [.ref v, x1, x2, x3] (.ref v :: st) σ ρ g τ Q := aw_lc m279 d279_1396 rfl rfl rfl
theorem d279_1397 : decode cL_law 1397 = .ok (.iload_n 3, 1) := by decide +kernel
theorem s279_1397 {d : Nat} {st : List Value} {σ : am_I} {ρ : am_R} {g : am_J} {τ : am_T} {Q : am_Q} {x0 x1 x2 : Value} {v : Int32} : AW d 279 1397 [x0, x1, x2, .int v] (st) σ ρ g τ Q = AW d 279 1398 [x0, x1, x2, .int v] (.int v :: st) σ ρ g τ Q := aw_lc m279 d279_1397 rfl rfl rfl
theorem d279_1398 : decode cL_law 1398 = .ok (.iconst 1, 1) := by decide +kernel
theorem s279_1398 {d : Nat} {st : List Value} {σ : am_I} {ρ : am_R} {g : am_J} {τ : am_T} {Q : am_Q} {x0 x1 x2 x3 : Value} : AW d 279 1398 [x0, x1, x2, x3] (st) σ ρ g τ Q = AW d 279 1399 [x0, x1, x2, x3] (.int 1 :: st) σ ρ g τ Q := aw_lc m279 d279_1398 rfl rfl rfl
theorem d279_1399 : decode cL_law 1399 = .ok (.iadd, 1) := by decide +kernel
theorem s279_1399 {d : Nat} {st : List Value} {σ : am_I} {ρ : am_R} {g : am_J} {τ : am_T} {Q : am_Q} {x0 x1 x2 x3 : Value} {v w : Int32} : AW d 279 1399 [x0, x1, x2, x3] (.int w :: .int v :: st) σ ρ g τ Q = AW d 279 1400 [x0, x1, x2, x3] (.int (v + w) :: st) σ ρ g τ Q := aw_lc m279 d279_1399 rfl rfl rfl
theorem d279_1400 : decode cL_law 1400 = .ok (.iaload, 1) := by decide +kernel
theorem s279_1400 {d : Nat} {st : List Value} {σ : am_I} {ρ : am_R} {g : am_J} {τ : am_T} {Q : am_Q} {x0 x1 x2 x3 : Value} {a : Nat} {j : Int32} (ht : τ.1 a = 15) (hj : am_inb j (τ.2.1 a) = true) : AW d 279 1400 [x0, x1, x2, x3] (.int j :: .ref a :: st) σ ρ g τ Q = AW d 279 1401 [x0, x1, x2, x3] (.int (σ a j.toNatClampNeg) :: st) σ ρ g τ Q := aw_ial m279 d279_1400 rfl ht hj
theorem d279_1401 : decode cL_law 1401 = .ok (.aload_n 0, 1) := by decide +kernel
theorem s279_1401 {d : Nat} {st : List Value} {σ : am_I} {ρ : am_R} {g : am_J} {τ : am_T} {Q : am_Q} {x1 x2 x3 : Value} {v : Nat} : AW d 279 1401 [.ref v, x1, x2, x3] (st) σ ρ g τ Q = AW d 279 1402 [.ref v, x1, x2, x3] (.ref v :: st) σ ρ g τ Q := aw_lc m279 d279_1401 rfl rfl rfl
theorem d279_1402 : decode cL_law 1402 = .ok (.iload_n 3, 1) := by decide +kernel
theorem s279_1402 {d : Nat} {st : List Value} {σ : am_I} {ρ : am_R} {g : am_J} {τ : am_T} {Q : am_Q} {x0 x1 x2 : Value} {v : Int32} : AW d 279 1402 [x0, x1, x2, .int v] (st) σ ρ g τ Q = AW d 279 1403 [x0, x1, x2, .int v] (.int v :: st) σ ρ g τ Q := aw_lc m279 d279_1402 rfl rfl rfl
theorem d279_1403 : decode cL_law 1403 = .ok (.iconst 2, 1) := by decide +kernel
theorem s279_1403 {d : Nat} {st : List Value} {σ : am_I} {ρ : am_R} {g : am_J} {τ : am_T} {Q : am_Q} {x0 x1 x2 x3 : Value} : AW d 279 1403 [x0, x1, x2, x3] (st) σ ρ g τ Q = AW d 279 1404 [x0, x1, x2, x3] (.int 2 :: st) σ ρ g τ Q := aw_lc m279 d279_1403 rfl rfl rfl
theorem d279_1404 : decode cL_law 1404 = .ok (.iadd, 1) := by decide +kernel
theorem s279_1404 {d : Nat} {st : List Value} {σ : am_I} {ρ : am_R} {g : am_J} {τ : am_T} {Q : am_Q} {x0 x1 x2 x3 : Value} {v w : Int32} : AW d 279 1404 [x0, x1, x2, x3] (.int w :: .int v :: st) σ ρ g τ Q = AW d 279 1405 [x0, x1, x2, x3] (.int (v + w) :: st) σ ρ g τ Q := aw_lc m279 d279_1404 rfl rfl rfl
theorem d279_1405 : decode cL_law 1405 = .ok (.iaload, 1) := by decide +kernel
theorem s279_1405 {d : Nat} {st : List Value} {σ : am_I} {ρ : am_R} {g : am_J} {τ : am_T} {Q : am_Q} {x0 x1 x2 x3 : Value} {a : Nat} {j : Int32} (ht : τ.1 a = 15) (hj : am_inb j (τ.2.1 a) = true) : AW d 279 1405 [x0, x1, x2, x3] (.int j :: .ref a :: st) σ ρ g τ Q = AW d 279 1406 [x0, x1, x2, x3] (.int (σ a j.toNatClampNeg) :: st) σ ρ g τ Q := aw_ial m279 d279_1405 rfl ht hj
theorem d279_1406 : decode cL_law 1406 = .ok (.invokevirtual 148, 3) := by decide +kernel
theorem s279_1406 {d : Nat} {st : List Value} {σ : am_I} {ρ : am_R} {g : am_J} {τ : am_T} {Q : am_Q} {x0 x1 x2 x3 : Value} {p0 : Nat} {p1 : Int32} {p2 : Int32} (ht : τ.1 p0 = 12) (hs : st.length ≤ 4) : AW (d + 1) 279 1406 [x0, x1, x2, x3] (.int p2 :: .int p1 :: .ref p0 :: st) σ ρ g τ Q = AW d 245 0 [.ref p0, .int p1, .int p2] [] σ ρ g τ (fun r9 σ ρ g τ => AW (d + 1) 279 1409 [x0, x1, x2, x3] (r9.toList ++ st) σ ρ g τ Q) := aw_cv m279 d279_1406 rfl m245 rfl rfl (by decide) en245 ok245 rfl ht hs
theorem d279_1409 : decode cL_law 1409 = .ok (.if_icmp .eq 404, 3) := by decide +kernel
theorem s279_1409 {d : Nat} {st : List Value} {σ : am_I} {ρ : am_R} {g : am_J} {τ : am_T} {Q : am_Q} {x0 x1 x2 x3 : Value} {v w : Int32} : AW d 279 1409 [x0, x1, x2, x3] (.int w :: .int v :: st) σ ρ g τ Q = if v = w then AW d 279 1813 [x0, x1, x2, x3] (st) σ ρ g τ Q else AW d 279 1412 [x0, x1, x2, x3] (st) σ ρ g τ Q := aw_br m279 d279_1409 rfl rfl rfl
theorem d279_1412 : decode cL_law 1412 = .ok (.iconst 0, 1) := by decide +kernel
theorem s279_1412 {d : Nat} {st : List Value} {σ : am_I} {ρ : am_R} {g : am_J} {τ : am_T} {Q : am_Q} {x0 x1 x2 x3 : Value} : AW d 279 1412 [x0, x1, x2, x3] (st) σ ρ g τ Q = AW d 279 1413 [x0, x1, x2, x3] (.int 0 :: st) σ ρ g τ Q := aw_lc m279 d279_1412 rfl rfl rfl
theorem d279_1413 : decode cL_law 1413 = .ok (.ireturn, 1) := by decide +kernel
theorem s279_1413 {d : Nat} {σ : am_I} {ρ : am_R} {g : am_J} {τ : am_T} {Q : am_Q} {x0 x1 x2 x3 : Value} {v : Int32} (hv : am_b01 v = true) : AW d 279 1413 [x0, x1, x2, x3] ([.int v]) σ ρ g τ Q = Q (some (.int v)) σ ρ g τ := aw_rz m279 d279_1413 rfl hv
theorem d279_1414 : decode cL_law 1414 = .ok (.aload_n 1, 1) := by decide +kernel
theorem s279_1414 {d : Nat} {st : List Value} {σ : am_I} {ρ : am_R} {g : am_J} {τ : am_T} {Q : am_Q} {x0 x2 x3 : Value} {v : Nat} : AW d 279 1414 [x0, .ref v, x2, x3] (st) σ ρ g τ Q = AW d 279 1415 [x0, .ref v, x2, x3] (.ref v :: st) σ ρ g τ Q := aw_lc m279 d279_1414 rfl rfl rfl
theorem d279_1415 : decode cL_law 1415 = .ok (.aload_n 0, 1) := by decide +kernel
theorem s279_1415 {d : Nat} {st : List Value} {σ : am_I} {ρ : am_R} {g : am_J} {τ : am_T} {Q : am_Q} {x1 x2 x3 : Value} {v : Nat} : AW d 279 1415 [.ref v, x1, x2, x3] (st) σ ρ g τ Q = AW d 279 1416 [.ref v, x1, x2, x3] (.ref v :: st) σ ρ g τ Q := aw_lc m279 d279_1415 rfl rfl rfl
theorem d279_1416 : decode cL_law 1416 = .ok (.iload_n 3, 1) := by decide +kernel
theorem s279_1416 {d : Nat} {st : List Value} {σ : am_I} {ρ : am_R} {g : am_J} {τ : am_T} {Q : am_Q} {x0 x1 x2 : Value} {v : Int32} : AW d 279 1416 [x0, x1, x2, .int v] (st) σ ρ g τ Q = AW d 279 1417 [x0, x1, x2, .int v] (.int v :: st) σ ρ g τ Q := aw_lc m279 d279_1416 rfl rfl rfl
theorem d279_1417 : decode cL_law 1417 = .ok (.iconst 1, 1) := by decide +kernel
theorem s279_1417 {d : Nat} {st : List Value} {σ : am_I} {ρ : am_R} {g : am_J} {τ : am_T} {Q : am_Q} {x0 x1 x2 x3 : Value} : AW d 279 1417 [x0, x1, x2, x3] (st) σ ρ g τ Q = AW d 279 1418 [x0, x1, x2, x3] (.int 1 :: st) σ ρ g τ Q := aw_lc m279 d279_1417 rfl rfl rfl
theorem d279_1418 : decode cL_law 1418 = .ok (.iadd, 1) := by decide +kernel
theorem s279_1418 {d : Nat} {st : List Value} {σ : am_I} {ρ : am_R} {g : am_J} {τ : am_T} {Q : am_Q} {x0 x1 x2 x3 : Value} {v w : Int32} : AW d 279 1418 [x0, x1, x2, x3] (.int w :: .int v :: st) σ ρ g τ Q = AW d 279 1419 [x0, x1, x2, x3] (.int (v + w) :: st) σ ρ g τ Q := aw_lc m279 d279_1418 rfl rfl rfl
theorem d279_1419 : decode cL_law 1419 = .ok (.iaload, 1) := by decide +kernel
theorem s279_1419 {d : Nat} {st : List Value} {σ : am_I} {ρ : am_R} {g : am_J} {τ : am_T} {Q : am_Q} {x0 x1 x2 x3 : Value} {a : Nat} {j : Int32} (ht : τ.1 a = 15) (hj : am_inb j (τ.2.1 a) = true) : AW d 279 1419 [x0, x1, x2, x3] (.int j :: .ref a :: st) σ ρ g τ Q = AW d 279 1420 [x0, x1, x2, x3] (.int (σ a j.toNatClampNeg) :: st) σ ρ g τ Q := aw_ial m279 d279_1419 rfl ht hj
theorem d279_1420 : decode cL_law 1420 = .ok (.aload_n 0, 1) := by decide +kernel
theorem s279_1420 {d : Nat} {st : List Value} {σ : am_I} {ρ : am_R} {g : am_J} {τ : am_T} {Q : am_Q} {x1 x2 x3 : Value} {v : Nat} : AW d 279 1420 [.ref v, x1, x2, x3] (st) σ ρ g τ Q = AW d 279 1421 [.ref v, x1, x2, x3] (.ref v :: st) σ ρ g τ Q := aw_lc m279 d279_1420 rfl rfl rfl
theorem d279_1421 : decode cL_law 1421 = .ok (.iload_n 3, 1) := by decide +kernel
theorem s279_1421 {d : Nat} {st : List Value} {σ : am_I} {ρ : am_R} {g : am_J} {τ : am_T} {Q : am_Q} {x0 x1 x2 : Value} {v : Int32} : AW d 279 1421 [x0, x1, x2, .int v] (st) σ ρ g τ Q = AW d 279 1422 [x0, x1, x2, .int v] (.int v :: st) σ ρ g τ Q := aw_lc m279 d279_1421 rfl rfl rfl
theorem d279_1422 : decode cL_law 1422 = .ok (.iconst 2, 1) := by decide +kernel
theorem s279_1422 {d : Nat} {st : List Value} {σ : am_I} {ρ : am_R} {g : am_J} {τ : am_T} {Q : am_Q} {x0 x1 x2 x3 : Value} : AW d 279 1422 [x0, x1, x2, x3] (st) σ ρ g τ Q = AW d 279 1423 [x0, x1, x2, x3] (.int 2 :: st) σ ρ g τ Q := aw_lc m279 d279_1422 rfl rfl rfl
theorem d279_1423 : decode cL_law 1423 = .ok (.iadd, 1) := by decide +kernel
theorem s279_1423 {d : Nat} {st : List Value} {σ : am_I} {ρ : am_R} {g : am_J} {τ : am_T} {Q : am_Q} {x0 x1 x2 x3 : Value} {v w : Int32} : AW d 279 1423 [x0, x1, x2, x3] (.int w :: .int v :: st) σ ρ g τ Q = AW d 279 1424 [x0, x1, x2, x3] (.int (v + w) :: st) σ ρ g τ Q := aw_lc m279 d279_1423 rfl rfl rfl
theorem d279_1424 : decode cL_law 1424 = .ok (.iaload, 1) := by decide +kernel
theorem s279_1424 {d : Nat} {st : List Value} {σ : am_I} {ρ : am_R} {g : am_J} {τ : am_T} {Q : am_Q} {x0 x1 x2 x3 : Value} {a : Nat} {j : Int32} (ht : τ.1 a = 15) (hj : am_inb j (τ.2.1 a) = true) : AW d 279 1424 [x0, x1, x2, x3] (.int j :: .ref a :: st) σ ρ g τ Q = AW d 279 1425 [x0, x1, x2, x3] (.int (σ a j.toNatClampNeg) :: st) σ ρ g τ Q := aw_ial m279 d279_1424 rfl ht hj
theorem d279_1425 : decode cL_law 1425 = .ok (.aload_n 0, 1) := by decide +kernel
theorem s279_1425 {d : Nat} {st : List Value} {σ : am_I} {ρ : am_R} {g : am_J} {τ : am_T} {Q : am_Q} {x1 x2 x3 : Value} {v : Nat} : AW d 279 1425 [.ref v, x1, x2, x3] (st) σ ρ g τ Q = AW d 279 1426 [.ref v, x1, x2, x3] (.ref v :: st) σ ρ g τ Q := aw_lc m279 d279_1425 rfl rfl rfl
theorem d279_1426 : decode cL_law 1426 = .ok (.iload_n 3, 1) := by decide +kernel
theorem s279_1426 {d : Nat} {st : List Value} {σ : am_I} {ρ : am_R} {g : am_J} {τ : am_T} {Q : am_Q} {x0 x1 x2 : Value} {v : Int32} : AW d 279 1426 [x0, x1, x2, .int v] (st) σ ρ g τ Q = AW d 279 1427 [x0, x1, x2, .int v] (.int v :: st) σ ρ g τ Q := aw_lc m279 d279_1426 rfl rfl rfl
theorem d279_1427 : decode cL_law 1427 = .ok (.iconst 3, 1) := by decide +kernel
theorem s279_1427 {d : Nat} {st : List Value} {σ : am_I} {ρ : am_R} {g : am_J} {τ : am_T} {Q : am_Q} {x0 x1 x2 x3 : Value} : AW d 279 1427 [x0, x1, x2, x3] (st) σ ρ g τ Q = AW d 279 1428 [x0, x1, x2, x3] (.int 3 :: st) σ ρ g τ Q := aw_lc m279 d279_1427 rfl rfl rfl
theorem d279_1428 : decode cL_law 1428 = .ok (.iadd, 1) := by decide +kernel
theorem s279_1428 {d : Nat} {st : List Value} {σ : am_I} {ρ : am_R} {g : am_J} {τ : am_T} {Q : am_Q} {x0 x1 x2 x3 : Value} {v w : Int32} : AW d 279 1428 [x0, x1, x2, x3] (.int w :: .int v :: st) σ ρ g τ Q = AW d 279 1429 [x0, x1, x2, x3] (.int (v + w) :: st) σ ρ g τ Q := aw_lc m279 d279_1428 rfl rfl rfl
theorem d279_1429 : decode cL_law 1429 = .ok (.iaload, 1) := by decide +kernel
theorem s279_1429 {d : Nat} {st : List Value} {σ : am_I} {ρ : am_R} {g : am_J} {τ : am_T} {Q : am_Q} {x0 x1 x2 x3 : Value} {a : Nat} {j : Int32} (ht : τ.1 a = 15) (hj : am_inb j (τ.2.1 a) = true) : AW d 279 1429 [x0, x1, x2, x3] (.int j :: .ref a :: st) σ ρ g τ Q = AW d 279 1430 [x0, x1, x2, x3] (.int (σ a j.toNatClampNeg) :: st) σ ρ g τ Q := aw_ial m279 d279_1429 rfl ht hj
theorem d279_1430 : decode cL_law 1430 = .ok (.invokevirtual 149, 3) := by decide +kernel
theorem s279_1430 {d : Nat} {st : List Value} {σ : am_I} {ρ : am_R} {g : am_J} {τ : am_T} {Q : am_Q} {x0 x1 x2 x3 : Value} {p0 : Nat} {p1 : Int32} {p2 : Int32} {p3 : Int32} (ht : τ.1 p0 = 11) (hs : st.length ≤ 4) : AW (d + 1) 279 1430 [x0, x1, x2, x3] (.int p3 :: .int p2 :: .int p1 :: .ref p0 :: st) σ ρ g τ Q = AW d 150 0 [.ref p0, .int p1, .int p2, .int p3, am_jk] [] σ ρ g τ (fun r9 σ ρ g τ => AW (d + 1) 279 1433 [x0, x1, x2, x3] (r9.toList ++ st) σ ρ g τ Q) := aw_cv m279 d279_1430 rfl m150 rfl rfl (by decide) en150 ok150 rfl ht hs
theorem d279_1433 : decode cL_law 1433 = .ok (.aload_n 2, 1) := by decide +kernel
theorem s279_1433 {d : Nat} {st : List Value} {σ : am_I} {ρ : am_R} {g : am_J} {τ : am_T} {Q : am_Q} {x0 x1 x3 : Value} {v : Nat} : AW d 279 1433 [x0, x1, .ref v, x3] (st) σ ρ g τ Q = AW d 279 1434 [x0, x1, .ref v, x3] (.ref v :: st) σ ρ g τ Q := aw_lc m279 d279_1433 rfl rfl rfl
theorem d279_1434 : decode cL_law 1434 = .ok (.aload_n 0, 1) := by decide +kernel
theorem s279_1434 {d : Nat} {st : List Value} {σ : am_I} {ρ : am_R} {g : am_J} {τ : am_T} {Q : am_Q} {x1 x2 x3 : Value} {v : Nat} : AW d 279 1434 [.ref v, x1, x2, x3] (st) σ ρ g τ Q = AW d 279 1435 [.ref v, x1, x2, x3] (.ref v :: st) σ ρ g τ Q := aw_lc m279 d279_1434 rfl rfl rfl
theorem d279_1435 : decode cL_law 1435 = .ok (.iload_n 3, 1) := by decide +kernel
theorem s279_1435 {d : Nat} {st : List Value} {σ : am_I} {ρ : am_R} {g : am_J} {τ : am_T} {Q : am_Q} {x0 x1 x2 : Value} {v : Int32} : AW d 279 1435 [x0, x1, x2, .int v] (st) σ ρ g τ Q = AW d 279 1436 [x0, x1, x2, .int v] (.int v :: st) σ ρ g τ Q := aw_lc m279 d279_1435 rfl rfl rfl
theorem d279_1436 : decode cL_law 1436 = .ok (.iconst 1, 1) := by decide +kernel
theorem s279_1436 {d : Nat} {st : List Value} {σ : am_I} {ρ : am_R} {g : am_J} {τ : am_T} {Q : am_Q} {x0 x1 x2 x3 : Value} : AW d 279 1436 [x0, x1, x2, x3] (st) σ ρ g τ Q = AW d 279 1437 [x0, x1, x2, x3] (.int 1 :: st) σ ρ g τ Q := aw_lc m279 d279_1436 rfl rfl rfl
theorem d279_1437 : decode cL_law 1437 = .ok (.iadd, 1) := by decide +kernel
theorem s279_1437 {d : Nat} {st : List Value} {σ : am_I} {ρ : am_R} {g : am_J} {τ : am_T} {Q : am_Q} {x0 x1 x2 x3 : Value} {v w : Int32} : AW d 279 1437 [x0, x1, x2, x3] (.int w :: .int v :: st) σ ρ g τ Q = AW d 279 1438 [x0, x1, x2, x3] (.int (v + w) :: st) σ ρ g τ Q := aw_lc m279 d279_1437 rfl rfl rfl
theorem d279_1438 : decode cL_law 1438 = .ok (.iaload, 1) := by decide +kernel
theorem s279_1438 {d : Nat} {st : List Value} {σ : am_I} {ρ : am_R} {g : am_J} {τ : am_T} {Q : am_Q} {x0 x1 x2 x3 : Value} {a : Nat} {j : Int32} (ht : τ.1 a = 15) (hj : am_inb j (τ.2.1 a) = true) : AW d 279 1438 [x0, x1, x2, x3] (.int j :: .ref a :: st) σ ρ g τ Q = AW d 279 1439 [x0, x1, x2, x3] (.int (σ a j.toNatClampNeg) :: st) σ ρ g τ Q := aw_ial m279 d279_1438 rfl ht hj
theorem d279_1439 : decode cL_law 1439 = .ok (.aload_n 0, 1) := by decide +kernel
theorem s279_1439 {d : Nat} {st : List Value} {σ : am_I} {ρ : am_R} {g : am_J} {τ : am_T} {Q : am_Q} {x1 x2 x3 : Value} {v : Nat} : AW d 279 1439 [.ref v, x1, x2, x3] (st) σ ρ g τ Q = AW d 279 1440 [.ref v, x1, x2, x3] (.ref v :: st) σ ρ g τ Q := aw_lc m279 d279_1439 rfl rfl rfl
theorem d279_1440 : decode cL_law 1440 = .ok (.iload_n 3, 1) := by decide +kernel
theorem s279_1440 {d : Nat} {st : List Value} {σ : am_I} {ρ : am_R} {g : am_J} {τ : am_T} {Q : am_Q} {x0 x1 x2 : Value} {v : Int32} : AW d 279 1440 [x0, x1, x2, .int v] (st) σ ρ g τ Q = AW d 279 1441 [x0, x1, x2, .int v] (.int v :: st) σ ρ g τ Q := aw_lc m279 d279_1440 rfl rfl rfl
theorem d279_1441 : decode cL_law 1441 = .ok (.iconst 2, 1) := by decide +kernel
theorem s279_1441 {d : Nat} {st : List Value} {σ : am_I} {ρ : am_R} {g : am_J} {τ : am_T} {Q : am_Q} {x0 x1 x2 x3 : Value} : AW d 279 1441 [x0, x1, x2, x3] (st) σ ρ g τ Q = AW d 279 1442 [x0, x1, x2, x3] (.int 2 :: st) σ ρ g τ Q := aw_lc m279 d279_1441 rfl rfl rfl
theorem d279_1442 : decode cL_law 1442 = .ok (.iadd, 1) := by decide +kernel
theorem s279_1442 {d : Nat} {st : List Value} {σ : am_I} {ρ : am_R} {g : am_J} {τ : am_T} {Q : am_Q} {x0 x1 x2 x3 : Value} {v w : Int32} : AW d 279 1442 [x0, x1, x2, x3] (.int w :: .int v :: st) σ ρ g τ Q = AW d 279 1443 [x0, x1, x2, x3] (.int (v + w) :: st) σ ρ g τ Q := aw_lc m279 d279_1442 rfl rfl rfl
theorem d279_1443 : decode cL_law 1443 = .ok (.iaload, 1) := by decide +kernel
theorem s279_1443 {d : Nat} {st : List Value} {σ : am_I} {ρ : am_R} {g : am_J} {τ : am_T} {Q : am_Q} {x0 x1 x2 x3 : Value} {a : Nat} {j : Int32} (ht : τ.1 a = 15) (hj : am_inb j (τ.2.1 a) = true) : AW d 279 1443 [x0, x1, x2, x3] (.int j :: .ref a :: st) σ ρ g τ Q = AW d 279 1444 [x0, x1, x2, x3] (.int (σ a j.toNatClampNeg) :: st) σ ρ g τ Q := aw_ial m279 d279_1443 rfl ht hj
theorem d279_1444 : decode cL_law 1444 = .ok (.aload_n 0, 1) := by decide +kernel
theorem s279_1444 {d : Nat} {st : List Value} {σ : am_I} {ρ : am_R} {g : am_J} {τ : am_T} {Q : am_Q} {x1 x2 x3 : Value} {v : Nat} : AW d 279 1444 [.ref v, x1, x2, x3] (st) σ ρ g τ Q = AW d 279 1445 [.ref v, x1, x2, x3] (.ref v :: st) σ ρ g τ Q := aw_lc m279 d279_1444 rfl rfl rfl
theorem d279_1445 : decode cL_law 1445 = .ok (.iload_n 3, 1) := by decide +kernel
theorem s279_1445 {d : Nat} {st : List Value} {σ : am_I} {ρ : am_R} {g : am_J} {τ : am_T} {Q : am_Q} {x0 x1 x2 : Value} {v : Int32} : AW d 279 1445 [x0, x1, x2, .int v] (st) σ ρ g τ Q = AW d 279 1446 [x0, x1, x2, .int v] (.int v :: st) σ ρ g τ Q := aw_lc m279 d279_1445 rfl rfl rfl
theorem d279_1446 : decode cL_law 1446 = .ok (.iconst 3, 1) := by decide +kernel
theorem s279_1446 {d : Nat} {st : List Value} {σ : am_I} {ρ : am_R} {g : am_J} {τ : am_T} {Q : am_Q} {x0 x1 x2 x3 : Value} : AW d 279 1446 [x0, x1, x2, x3] (st) σ ρ g τ Q = AW d 279 1447 [x0, x1, x2, x3] (.int 3 :: st) σ ρ g τ Q := aw_lc m279 d279_1446 rfl rfl rfl
theorem d279_1447 : decode cL_law 1447 = .ok (.iadd, 1) := by decide +kernel
theorem s279_1447 {d : Nat} {st : List Value} {σ : am_I} {ρ : am_R} {g : am_J} {τ : am_T} {Q : am_Q} {x0 x1 x2 x3 : Value} {v w : Int32} : AW d 279 1447 [x0, x1, x2, x3] (.int w :: .int v :: st) σ ρ g τ Q = AW d 279 1448 [x0, x1, x2, x3] (.int (v + w) :: st) σ ρ g τ Q := aw_lc m279 d279_1447 rfl rfl rfl
theorem d279_1448 : decode cL_law 1448 = .ok (.iaload, 1) := by decide +kernel
theorem s279_1448 {d : Nat} {st : List Value} {σ : am_I} {ρ : am_R} {g : am_J} {τ : am_T} {Q : am_Q} {x0 x1 x2 x3 : Value} {a : Nat} {j : Int32} (ht : τ.1 a = 15) (hj : am_inb j (τ.2.1 a) = true) : AW d 279 1448 [x0, x1, x2, x3] (.int j :: .ref a :: st) σ ρ g τ Q = AW d 279 1449 [x0, x1, x2, x3] (.int (σ a j.toNatClampNeg) :: st) σ ρ g τ Q := aw_ial m279 d279_1448 rfl ht hj
theorem d279_1449 : decode cL_law 1449 = .ok (.invokevirtual 152, 3) := by decide +kernel
theorem s279_1449 {d : Nat} {st : List Value} {σ : am_I} {ρ : am_R} {g : am_J} {τ : am_T} {Q : am_Q} {x0 x1 x2 x3 : Value} {p0 : Nat} {p1 : Int32} {p2 : Int32} {p3 : Int32} (ht : τ.1 p0 = 12) (hs : st.length ≤ 4) : AW (d + 1) 279 1449 [x0, x1, x2, x3] (.int p3 :: .int p2 :: .int p1 :: .ref p0 :: st) σ ρ g τ Q = AW d 246 0 [.ref p0, .int p1, .int p2, .int p3, am_jk, am_jk] [] σ ρ g τ (fun r9 σ ρ g τ => AW (d + 1) 279 1452 [x0, x1, x2, x3] (r9.toList ++ st) σ ρ g τ Q) := aw_cv m279 d279_1449 rfl m246 rfl rfl (by decide) en246 ok246 rfl ht hs
theorem d279_1452 : decode cL_law 1452 = .ok (.if_icmp .eq 361, 3) := by decide +kernel
theorem s279_1452 {d : Nat} {st : List Value} {σ : am_I} {ρ : am_R} {g : am_J} {τ : am_T} {Q : am_Q} {x0 x1 x2 x3 : Value} {v w : Int32} : AW d 279 1452 [x0, x1, x2, x3] (.int w :: .int v :: st) σ ρ g τ Q = if v = w then AW d 279 1813 [x0, x1, x2, x3] (st) σ ρ g τ Q else AW d 279 1455 [x0, x1, x2, x3] (st) σ ρ g τ Q := aw_br m279 d279_1452 rfl rfl rfl
theorem d279_1455 : decode cL_law 1455 = .ok (.iconst 0, 1) := by decide +kernel
theorem s279_1455 {d : Nat} {st : List Value} {σ : am_I} {ρ : am_R} {g : am_J} {τ : am_T} {Q : am_Q} {x0 x1 x2 x3 : Value} : AW d 279 1455 [x0, x1, x2, x3] (st) σ ρ g τ Q = AW d 279 1456 [x0, x1, x2, x3] (.int 0 :: st) σ ρ g τ Q := aw_lc m279 d279_1455 rfl rfl rfl
theorem d279_1456 : decode cL_law 1456 = .ok (.ireturn, 1) := by decide +kernel
theorem s279_1456 {d : Nat} {σ : am_I} {ρ : am_R} {g : am_J} {τ : am_T} {Q : am_Q} {x0 x1 x2 x3 : Value} {v : Int32} (hv : am_b01 v = true) : AW d 279 1456 [x0, x1, x2, x3] ([.int v]) σ ρ g τ Q = Q (some (.int v)) σ ρ g τ := aw_rz m279 d279_1456 rfl hv
theorem d279_1457 : decode cL_law 1457 = .ok (.aload_n 1, 1) := by decide +kernel
theorem s279_1457 {d : Nat} {st : List Value} {σ : am_I} {ρ : am_R} {g : am_J} {τ : am_T} {Q : am_Q} {x0 x2 x3 : Value} {v : Nat} : AW d 279 1457 [x0, .ref v, x2, x3] (st) σ ρ g τ Q = AW d 279 1458 [x0, .ref v, x2, x3] (.ref v :: st) σ ρ g τ Q := aw_lc m279 d279_1457 rfl rfl rfl
theorem d279_1458 : decode cL_law 1458 = .ok (.invokevirtual 153, 3) := by decide +kernel
theorem s279_1458 {d : Nat} {st : List Value} {σ : am_I} {ρ : am_R} {g : am_J} {τ : am_T} {Q : am_Q} {x0 x1 x2 x3 : Value} {p0 : Nat} (ht : τ.1 p0 = 11) (hs : st.length ≤ 4) : AW (d + 1) 279 1458 [x0, x1, x2, x3] (.ref p0 :: st) σ ρ g τ Q = AW d 151 0 [.ref p0] [] σ ρ g τ (fun r9 σ ρ g τ => AW (d + 1) 279 1461 [x0, x1, x2, x3] (r9.toList ++ st) σ ρ g τ Q) := aw_cv m279 d279_1458 rfl m151 rfl rfl (by decide) en151 ok151 rfl ht hs
theorem d279_1461 : decode cL_law 1461 = .ok (.aload_n 2, 1) := by decide +kernel
theorem s279_1461 {d : Nat} {st : List Value} {σ : am_I} {ρ : am_R} {g : am_J} {τ : am_T} {Q : am_Q} {x0 x1 x3 : Value} {v : Nat} : AW d 279 1461 [x0, x1, .ref v, x3] (st) σ ρ g τ Q = AW d 279 1462 [x0, x1, .ref v, x3] (.ref v :: st) σ ρ g τ Q := aw_lc m279 d279_1461 rfl rfl rfl
theorem d279_1462 : decode cL_law 1462 = .ok (.invokevirtual 156, 3) := by decide +kernel
theorem s279_1462 {d : Nat} {st : List Value} {σ : am_I} {ρ : am_R} {g : am_J} {τ : am_T} {Q : am_Q} {x0 x1 x2 x3 : Value} {p0 : Nat} (ht : τ.1 p0 = 12) (hs : st.length ≤ 4) : AW (d + 1) 279 1462 [x0, x1, x2, x3] (.ref p0 :: st) σ ρ g τ Q = AW d 247 0 [.ref p0] [] σ ρ g τ (fun r9 σ ρ g τ => AW (d + 1) 279 1465 [x0, x1, x2, x3] (r9.toList ++ st) σ ρ g τ Q) := aw_cv m279 d279_1462 rfl m247 rfl rfl (by decide) en247 ok247 rfl ht hs
theorem d279_1465 : decode cL_law 1465 = .ok (.if_icmp .eq 348, 3) := by decide +kernel
theorem s279_1465 {d : Nat} {st : List Value} {σ : am_I} {ρ : am_R} {g : am_J} {τ : am_T} {Q : am_Q} {x0 x1 x2 x3 : Value} {v w : Int32} : AW d 279 1465 [x0, x1, x2, x3] (.int w :: .int v :: st) σ ρ g τ Q = if v = w then AW d 279 1813 [x0, x1, x2, x3] (st) σ ρ g τ Q else AW d 279 1468 [x0, x1, x2, x3] (st) σ ρ g τ Q := aw_br m279 d279_1465 rfl rfl rfl
theorem d279_1468 : decode cL_law 1468 = .ok (.iconst 0, 1) := by decide +kernel
theorem s279_1468 {d : Nat} {st : List Value} {σ : am_I} {ρ : am_R} {g : am_J} {τ : am_T} {Q : am_Q} {x0 x1 x2 x3 : Value} : AW d 279 1468 [x0, x1, x2, x3] (st) σ ρ g τ Q = AW d 279 1469 [x0, x1, x2, x3] (.int 0 :: st) σ ρ g τ Q := aw_lc m279 d279_1468 rfl rfl rfl
theorem d279_1469 : decode cL_law 1469 = .ok (.ireturn, 1) := by decide +kernel
theorem s279_1469 {d : Nat} {σ : am_I} {ρ : am_R} {g : am_J} {τ : am_T} {Q : am_Q} {x0 x1 x2 x3 : Value} {v : Int32} (hv : am_b01 v = true) : AW d 279 1469 [x0, x1, x2, x3] ([.int v]) σ ρ g τ Q = Q (some (.int v)) σ ρ g τ := aw_rz m279 d279_1469 rfl hv
theorem d279_1470 : decode cL_law 1470 = .ok (.aload_n 1, 1) := by decide +kernel
theorem s279_1470 {d : Nat} {st : List Value} {σ : am_I} {ρ : am_R} {g : am_J} {τ : am_T} {Q : am_Q} {x0 x2 x3 : Value} {v : Nat} : AW d 279 1470 [x0, .ref v, x2, x3] (st) σ ρ g τ Q = AW d 279 1471 [x0, .ref v, x2, x3] (.ref v :: st) σ ρ g τ Q := aw_lc m279 d279_1470 rfl rfl rfl
theorem d279_1471 : decode cL_law 1471 = .ok (.aload_n 0, 1) := by decide +kernel
theorem s279_1471 {d : Nat} {st : List Value} {σ : am_I} {ρ : am_R} {g : am_J} {τ : am_T} {Q : am_Q} {x1 x2 x3 : Value} {v : Nat} : AW d 279 1471 [.ref v, x1, x2, x3] (st) σ ρ g τ Q = AW d 279 1472 [.ref v, x1, x2, x3] (.ref v :: st) σ ρ g τ Q := aw_lc m279 d279_1471 rfl rfl rfl
theorem d279_1472 : decode cL_law 1472 = .ok (.iload_n 3, 1) := by decide +kernel
theorem s279_1472 {d : Nat} {st : List Value} {σ : am_I} {ρ : am_R} {g : am_J} {τ : am_T} {Q : am_Q} {x0 x1 x2 : Value} {v : Int32} : AW d 279 1472 [x0, x1, x2, .int v] (st) σ ρ g τ Q = AW d 279 1473 [x0, x1, x2, .int v] (.int v :: st) σ ρ g τ Q := aw_lc m279 d279_1472 rfl rfl rfl
theorem d279_1473 : decode cL_law 1473 = .ok (.iconst 1, 1) := by decide +kernel
theorem s279_1473 {d : Nat} {st : List Value} {σ : am_I} {ρ : am_R} {g : am_J} {τ : am_T} {Q : am_Q} {x0 x1 x2 x3 : Value} : AW d 279 1473 [x0, x1, x2, x3] (st) σ ρ g τ Q = AW d 279 1474 [x0, x1, x2, x3] (.int 1 :: st) σ ρ g τ Q := aw_lc m279 d279_1473 rfl rfl rfl
theorem d279_1474 : decode cL_law 1474 = .ok (.iadd, 1) := by decide +kernel
theorem s279_1474 {d : Nat} {st : List Value} {σ : am_I} {ρ : am_R} {g : am_J} {τ : am_T} {Q : am_Q} {x0 x1 x2 x3 : Value} {v w : Int32} : AW d 279 1474 [x0, x1, x2, x3] (.int w :: .int v :: st) σ ρ g τ Q = AW d 279 1475 [x0, x1, x2, x3] (.int (v + w) :: st) σ ρ g τ Q := aw_lc m279 d279_1474 rfl rfl rfl
theorem d279_1475 : decode cL_law 1475 = .ok (.iaload, 1) := by decide +kernel
theorem s279_1475 {d : Nat} {st : List Value} {σ : am_I} {ρ : am_R} {g : am_J} {τ : am_T} {Q : am_Q} {x0 x1 x2 x3 : Value} {a : Nat} {j : Int32} (ht : τ.1 a = 15) (hj : am_inb j (τ.2.1 a) = true) : AW d 279 1475 [x0, x1, x2, x3] (.int j :: .ref a :: st) σ ρ g τ Q = AW d 279 1476 [x0, x1, x2, x3] (.int (σ a j.toNatClampNeg) :: st) σ ρ g τ Q := aw_ial m279 d279_1475 rfl ht hj
theorem d279_1476 : decode cL_law 1476 = .ok (.invokevirtual 157, 3) := by decide +kernel
theorem s279_1476 {d : Nat} {st : List Value} {σ : am_I} {ρ : am_R} {g : am_J} {τ : am_T} {Q : am_Q} {x0 x1 x2 x3 : Value} {p0 : Nat} {p1 : Int32} (ht : τ.1 p0 = 11) (hs : st.length ≤ 4) : AW (d + 1) 279 1476 [x0, x1, x2, x3] (.int p1 :: .ref p0 :: st) σ ρ g τ Q = AW d 152 0 [.ref p0, .int p1, am_jk, am_jk, am_jk, am_jk] [] σ ρ g τ (fun r9 σ ρ g τ => AW (d + 1) 279 1479 [x0, x1, x2, x3] (r9.toList ++ st) σ ρ g τ Q) := aw_cv m279 d279_1476 rfl m152 rfl rfl (by decide) en152 ok152 rfl ht hs
theorem d279_1479 : decode cL_law 1479 = .ok (.aload_n 2, 1) := by decide +kernel
theorem s279_1479 {d : Nat} {st : List Value} {σ : am_I} {ρ : am_R} {g : am_J} {τ : am_T} {Q : am_Q} {x0 x1 x3 : Value} {v : Nat} : AW d 279 1479 [x0, x1, .ref v, x3] (st) σ ρ g τ Q = AW d 279 1480 [x0, x1, .ref v, x3] (.ref v :: st) σ ρ g τ Q := aw_lc m279 d279_1479 rfl rfl rfl
theorem d279_1480 : decode cL_law 1480 = .ok (.aload_n 0, 1) := by decide +kernel
theorem s279_1480 {d : Nat} {st : List Value} {σ : am_I} {ρ : am_R} {g : am_J} {τ : am_T} {Q : am_Q} {x1 x2 x3 : Value} {v : Nat} : AW d 279 1480 [.ref v, x1, x2, x3] (st) σ ρ g τ Q = AW d 279 1481 [.ref v, x1, x2, x3] (.ref v :: st) σ ρ g τ Q := aw_lc m279 d279_1480 rfl rfl rfl
theorem d279_1481 : decode cL_law 1481 = .ok (.iload_n 3, 1) := by decide +kernel
theorem s279_1481 {d : Nat} {st : List Value} {σ : am_I} {ρ : am_R} {g : am_J} {τ : am_T} {Q : am_Q} {x0 x1 x2 : Value} {v : Int32} : AW d 279 1481 [x0, x1, x2, .int v] (st) σ ρ g τ Q = AW d 279 1482 [x0, x1, x2, .int v] (.int v :: st) σ ρ g τ Q := aw_lc m279 d279_1481 rfl rfl rfl
theorem d279_1482 : decode cL_law 1482 = .ok (.iconst 1, 1) := by decide +kernel
theorem s279_1482 {d : Nat} {st : List Value} {σ : am_I} {ρ : am_R} {g : am_J} {τ : am_T} {Q : am_Q} {x0 x1 x2 x3 : Value} : AW d 279 1482 [x0, x1, x2, x3] (st) σ ρ g τ Q = AW d 279 1483 [x0, x1, x2, x3] (.int 1 :: st) σ ρ g τ Q := aw_lc m279 d279_1482 rfl rfl rfl
theorem d279_1483 : decode cL_law 1483 = .ok (.iadd, 1) := by decide +kernel
theorem s279_1483 {d : Nat} {st : List Value} {σ : am_I} {ρ : am_R} {g : am_J} {τ : am_T} {Q : am_Q} {x0 x1 x2 x3 : Value} {v w : Int32} : AW d 279 1483 [x0, x1, x2, x3] (.int w :: .int v :: st) σ ρ g τ Q = AW d 279 1484 [x0, x1, x2, x3] (.int (v + w) :: st) σ ρ g τ Q := aw_lc m279 d279_1483 rfl rfl rfl
theorem d279_1484 : decode cL_law 1484 = .ok (.iaload, 1) := by decide +kernel
theorem s279_1484 {d : Nat} {st : List Value} {σ : am_I} {ρ : am_R} {g : am_J} {τ : am_T} {Q : am_Q} {x0 x1 x2 x3 : Value} {a : Nat} {j : Int32} (ht : τ.1 a = 15) (hj : am_inb j (τ.2.1 a) = true) : AW d 279 1484 [x0, x1, x2, x3] (.int j :: .ref a :: st) σ ρ g τ Q = AW d 279 1485 [x0, x1, x2, x3] (.int (σ a j.toNatClampNeg) :: st) σ ρ g τ Q := aw_ial m279 d279_1484 rfl ht hj
theorem d279_1485 : decode cL_law 1485 = .ok (.invokevirtual 160, 3) := by decide +kernel
theorem s279_1485 {d : Nat} {st : List Value} {σ : am_I} {ρ : am_R} {g : am_J} {τ : am_T} {Q : am_Q} {x0 x1 x2 x3 : Value} {p0 : Nat} {p1 : Int32} (ht : τ.1 p0 = 12) (hs : st.length ≤ 4) : AW (d + 1) 279 1485 [x0, x1, x2, x3] (.int p1 :: .ref p0 :: st) σ ρ g τ Q = AW d 248 0 [.ref p0, .int p1, am_jk, am_jk, am_jk, am_jk] [] σ ρ g τ (fun r9 σ ρ g τ => AW (d + 1) 279 1488 [x0, x1, x2, x3] (r9.toList ++ st) σ ρ g τ Q) := aw_cv m279 d279_1485 rfl m248 rfl rfl (by decide) en248 ok248 rfl ht hs
theorem d279_1488 : decode cL_law 1488 = .ok (.if_icmp .eq 325, 3) := by decide +kernel
theorem s279_1488 {d : Nat} {st : List Value} {σ : am_I} {ρ : am_R} {g : am_J} {τ : am_T} {Q : am_Q} {x0 x1 x2 x3 : Value} {v w : Int32} : AW d 279 1488 [x0, x1, x2, x3] (.int w :: .int v :: st) σ ρ g τ Q = if v = w then AW d 279 1813 [x0, x1, x2, x3] (st) σ ρ g τ Q else AW d 279 1491 [x0, x1, x2, x3] (st) σ ρ g τ Q := aw_br m279 d279_1488 rfl rfl rfl
theorem d279_1491 : decode cL_law 1491 = .ok (.iconst 0, 1) := by decide +kernel
theorem s279_1491 {d : Nat} {st : List Value} {σ : am_I} {ρ : am_R} {g : am_J} {τ : am_T} {Q : am_Q} {x0 x1 x2 x3 : Value} : AW d 279 1491 [x0, x1, x2, x3] (st) σ ρ g τ Q = AW d 279 1492 [x0, x1, x2, x3] (.int 0 :: st) σ ρ g τ Q := aw_lc m279 d279_1491 rfl rfl rfl
theorem d279_1492 : decode cL_law 1492 = .ok (.ireturn, 1) := by decide +kernel
theorem s279_1492 {d : Nat} {σ : am_I} {ρ : am_R} {g : am_J} {τ : am_T} {Q : am_Q} {x0 x1 x2 x3 : Value} {v : Int32} (hv : am_b01 v = true) : AW d 279 1492 [x0, x1, x2, x3] ([.int v]) σ ρ g τ Q = Q (some (.int v)) σ ρ g τ := aw_rz m279 d279_1492 rfl hv
theorem d279_1493 : decode cL_law 1493 = .ok (.aload_n 1, 1) := by decide +kernel
theorem s279_1493 {d : Nat} {st : List Value} {σ : am_I} {ρ : am_R} {g : am_J} {τ : am_T} {Q : am_Q} {x0 x2 x3 : Value} {v : Nat} : AW d 279 1493 [x0, .ref v, x2, x3] (st) σ ρ g τ Q = AW d 279 1494 [x0, .ref v, x2, x3] (.ref v :: st) σ ρ g τ Q := aw_lc m279 d279_1493 rfl rfl rfl
theorem d279_1494 : decode cL_law 1494 = .ok (.aload_n 0, 1) := by decide +kernel
theorem s279_1494 {d : Nat} {st : List Value} {σ : am_I} {ρ : am_R} {g : am_J} {τ : am_T} {Q : am_Q} {x1 x2 x3 : Value} {v : Nat} : AW d 279 1494 [.ref v, x1, x2, x3] (st) σ ρ g τ Q = AW d 279 1495 [.ref v, x1, x2, x3] (.ref v :: st) σ ρ g τ Q := aw_lc m279 d279_1494 rfl rfl rfl
theorem d279_1495 : decode cL_law 1495 = .ok (.iload_n 3, 1) := by decide +kernel
theorem s279_1495 {d : Nat} {st : List Value} {σ : am_I} {ρ : am_R} {g : am_J} {τ : am_T} {Q : am_Q} {x0 x1 x2 : Value} {v : Int32} : AW d 279 1495 [x0, x1, x2, .int v] (st) σ ρ g τ Q = AW d 279 1496 [x0, x1, x2, .int v] (.int v :: st) σ ρ g τ Q := aw_lc m279 d279_1495 rfl rfl rfl
theorem d279_1496 : decode cL_law 1496 = .ok (.iconst 1, 1) := by decide +kernel
theorem s279_1496 {d : Nat} {st : List Value} {σ : am_I} {ρ : am_R} {g : am_J} {τ : am_T} {Q : am_Q} {x0 x1 x2 x3 : Value} : AW d 279 1496 [x0, x1, x2, x3] (st) σ ρ g τ Q = AW d 279 1497 [x0, x1, x2, x3] (.int 1 :: st) σ ρ g τ Q := aw_lc m279 d279_1496 rfl rfl rfl
theorem d279_1497 : decode cL_law 1497 = .ok (.iadd, 1) := by decide +kernel
theorem s279_1497 {d : Nat} {st : List Value} {σ : am_I} {ρ : am_R} {g : am_J} {τ : am_T} {Q : am_Q} {x0 x1 x2 x3 : Value} {v w : Int32} : AW d 279 1497 [x0, x1, x2, x3] (.int w :: .int v :: st) σ ρ g τ Q = AW d 279 1498 [x0, x1, x2, x3] (.int (v + w) :: st) σ ρ g τ Q := aw_lc m279 d279_1497 rfl rfl rfl
theorem d279_1498 : decode cL_law 1498 = .ok (.iaload, 1) := by decide +kernel
theorem s279_1498 {d : Nat} {st : List Value} {σ : am_I} {ρ : am_R} {g : am_J} {τ : am_T} {Q : am_Q} {x0 x1 x2 x3 : Value} {a : Nat} {j : Int32} (ht : τ.1 a = 15) (hj : am_inb j (τ.2.1 a) = true) : AW d 279 1498 [x0, x1, x2, x3] (.int j :: .ref a :: st) σ ρ g τ Q = AW d 279 1499 [x0, x1, x2, x3] (.int (σ a j.toNatClampNeg) :: st) σ ρ g τ Q := aw_ial m279 d279_1498 rfl ht hj
theorem d279_1499 : decode cL_law 1499 = .ok (.aload_n 0, 1) := by decide +kernel
theorem s279_1499 {d : Nat} {st : List Value} {σ : am_I} {ρ : am_R} {g : am_J} {τ : am_T} {Q : am_Q} {x1 x2 x3 : Value} {v : Nat} : AW d 279 1499 [.ref v, x1, x2, x3] (st) σ ρ g τ Q = AW d 279 1500 [.ref v, x1, x2, x3] (.ref v :: st) σ ρ g τ Q := aw_lc m279 d279_1499 rfl rfl rfl
theorem d279_1500 : decode cL_law 1500 = .ok (.iload_n 3, 1) := by decide +kernel
theorem s279_1500 {d : Nat} {st : List Value} {σ : am_I} {ρ : am_R} {g : am_J} {τ : am_T} {Q : am_Q} {x0 x1 x2 : Value} {v : Int32} : AW d 279 1500 [x0, x1, x2, .int v] (st) σ ρ g τ Q = AW d 279 1501 [x0, x1, x2, .int v] (.int v :: st) σ ρ g τ Q := aw_lc m279 d279_1500 rfl rfl rfl
theorem d279_1501 : decode cL_law 1501 = .ok (.iconst 2, 1) := by decide +kernel
theorem s279_1501 {d : Nat} {st : List Value} {σ : am_I} {ρ : am_R} {g : am_J} {τ : am_T} {Q : am_Q} {x0 x1 x2 x3 : Value} : AW d 279 1501 [x0, x1, x2, x3] (st) σ ρ g τ Q = AW d 279 1502 [x0, x1, x2, x3] (.int 2 :: st) σ ρ g τ Q := aw_lc m279 d279_1501 rfl rfl rfl
theorem d279_1502 : decode cL_law 1502 = .ok (.iadd, 1) := by decide +kernel
theorem s279_1502 {d : Nat} {st : List Value} {σ : am_I} {ρ : am_R} {g : am_J} {τ : am_T} {Q : am_Q} {x0 x1 x2 x3 : Value} {v w : Int32} : AW d 279 1502 [x0, x1, x2, x3] (.int w :: .int v :: st) σ ρ g τ Q = AW d 279 1503 [x0, x1, x2, x3] (.int (v + w) :: st) σ ρ g τ Q := aw_lc m279 d279_1502 rfl rfl rfl
theorem d279_1503 : decode cL_law 1503 = .ok (.iaload, 1) := by decide +kernel
theorem s279_1503 {d : Nat} {st : List Value} {σ : am_I} {ρ : am_R} {g : am_J} {τ : am_T} {Q : am_Q} {x0 x1 x2 x3 : Value} {a : Nat} {j : Int32} (ht : τ.1 a = 15) (hj : am_inb j (τ.2.1 a) = true) : AW d 279 1503 [x0, x1, x2, x3] (.int j :: .ref a :: st) σ ρ g τ Q = AW d 279 1504 [x0, x1, x2, x3] (.int (σ a j.toNatClampNeg) :: st) σ ρ g τ Q := aw_ial m279 d279_1503 rfl ht hj
theorem d279_1504 : decode cL_law 1504 = .ok (.aload_n 0, 1) := by decide +kernel
theorem s279_1504 {d : Nat} {st : List Value} {σ : am_I} {ρ : am_R} {g : am_J} {τ : am_T} {Q : am_Q} {x1 x2 x3 : Value} {v : Nat} : AW d 279 1504 [.ref v, x1, x2, x3] (st) σ ρ g τ Q = AW d 279 1505 [.ref v, x1, x2, x3] (.ref v :: st) σ ρ g τ Q := aw_lc m279 d279_1504 rfl rfl rfl
theorem d279_1505 : decode cL_law 1505 = .ok (.iload_n 3, 1) := by decide +kernel
theorem s279_1505 {d : Nat} {st : List Value} {σ : am_I} {ρ : am_R} {g : am_J} {τ : am_T} {Q : am_Q} {x0 x1 x2 : Value} {v : Int32} : AW d 279 1505 [x0, x1, x2, .int v] (st) σ ρ g τ Q = AW d 279 1506 [x0, x1, x2, .int v] (.int v :: st) σ ρ g τ Q := aw_lc m279 d279_1505 rfl rfl rfl
theorem d279_1506 : decode cL_law 1506 = .ok (.iconst 3, 1) := by decide +kernel
theorem s279_1506 {d : Nat} {st : List Value} {σ : am_I} {ρ : am_R} {g : am_J} {τ : am_T} {Q : am_Q} {x0 x1 x2 x3 : Value} : AW d 279 1506 [x0, x1, x2, x3] (st) σ ρ g τ Q = AW d 279 1507 [x0, x1, x2, x3] (.int 3 :: st) σ ρ g τ Q := aw_lc m279 d279_1506 rfl rfl rfl
theorem d279_1507 : decode cL_law 1507 = .ok (.iadd, 1) := by decide +kernel
theorem s279_1507 {d : Nat} {st : List Value} {σ : am_I} {ρ : am_R} {g : am_J} {τ : am_T} {Q : am_Q} {x0 x1 x2 x3 : Value} {v w : Int32} : AW d 279 1507 [x0, x1, x2, x3] (.int w :: .int v :: st) σ ρ g τ Q = AW d 279 1508 [x0, x1, x2, x3] (.int (v + w) :: st) σ ρ g τ Q := aw_lc m279 d279_1507 rfl rfl rfl
theorem d279_1508 : decode cL_law 1508 = .ok (.iaload, 1) := by decide +kernel
theorem s279_1508 {d : Nat} {st : List Value} {σ : am_I} {ρ : am_R} {g : am_J} {τ : am_T} {Q : am_Q} {x0 x1 x2 x3 : Value} {a : Nat} {j : Int32} (ht : τ.1 a = 15) (hj : am_inb j (τ.2.1 a) = true) : AW d 279 1508 [x0, x1, x2, x3] (.int j :: .ref a :: st) σ ρ g τ Q = AW d 279 1509 [x0, x1, x2, x3] (.int (σ a j.toNatClampNeg) :: st) σ ρ g τ Q := aw_ial m279 d279_1508 rfl ht hj
theorem d279_1509 : decode cL_law 1509 = .ok (.invokevirtual 161, 3) := by decide +kernel
theorem s279_1509 {d : Nat} {st : List Value} {σ : am_I} {ρ : am_R} {g : am_J} {τ : am_T} {Q : am_Q} {x0 x1 x2 x3 : Value} {p0 : Nat} {p1 : Int32} {p2 : Int32} {p3 : Int32} (ht : τ.1 p0 = 11) (hs : st.length ≤ 4) : AW (d + 1) 279 1509 [x0, x1, x2, x3] (.int p3 :: .int p2 :: .int p1 :: .ref p0 :: st) σ ρ g τ Q = AW d 153 0 [.ref p0, .int p1, .int p2, .int p3] [] σ ρ g τ (fun r9 σ ρ g τ => AW (d + 1) 279 1512 [x0, x1, x2, x3] (r9.toList ++ st) σ ρ g τ Q) := aw_cv m279 d279_1509 rfl m153 rfl rfl (by decide) en153 ok153 rfl ht hs
theorem d279_1512 : decode cL_law 1512 = .ok (.aload_n 2, 1) := by decide +kernel
theorem s279_1512 {d : Nat} {st : List Value} {σ : am_I} {ρ : am_R} {g : am_J} {τ : am_T} {Q : am_Q} {x0 x1 x3 : Value} {v : Nat} : AW d 279 1512 [x0, x1, .ref v, x3] (st) σ ρ g τ Q = AW d 279 1513 [x0, x1, .ref v, x3] (.ref v :: st) σ ρ g τ Q := aw_lc m279 d279_1512 rfl rfl rfl
theorem d279_1513 : decode cL_law 1513 = .ok (.aload_n 0, 1) := by decide +kernel
theorem s279_1513 {d : Nat} {st : List Value} {σ : am_I} {ρ : am_R} {g : am_J} {τ : am_T} {Q : am_Q} {x1 x2 x3 : Value} {v : Nat} : AW d 279 1513 [.ref v, x1, x2, x3] (st) σ ρ g τ Q = AW d 279 1514 [.ref v, x1, x2, x3] (.ref v :: st) σ ρ g τ Q := aw_lc m279 d279_1513 rfl rfl rfl
theorem d279_1514 : decode cL_law 1514 = .ok (.iload_n 3, 1) := by decide +kernel
theorem s279_1514 {d : Nat} {st : List Value} {σ : am_I} {ρ : am_R} {g : am_J} {τ : am_T} {Q : am_Q} {x0 x1 x2 : Value} {v : Int32} : AW d 279 1514 [x0, x1, x2, .int v] (st) σ ρ g τ Q = AW d 279 1515 [x0, x1, x2, .int v] (.int v :: st) σ ρ g τ Q := aw_lc m279 d279_1514 rfl rfl rfl
theorem d279_1515 : decode cL_law 1515 = .ok (.iconst 1, 1) := by decide +kernel
theorem s279_1515 {d : Nat} {st : List Value} {σ : am_I} {ρ : am_R} {g : am_J} {τ : am_T} {Q : am_Q} {x0 x1 x2 x3 : Value} : AW d 279 1515 [x0, x1, x2, x3] (st) σ ρ g τ Q = AW d 279 1516 [x0, x1, x2, x3] (.int 1 :: st) σ ρ g τ Q := aw_lc m279 d279_1515 rfl rfl rfl
theorem d279_1516 : decode cL_law 1516 = .ok (.iadd, 1) := by decide +kernel
theorem s279_1516 {d : Nat} {st : List Value} {σ : am_I} {ρ : am_R} {g : am_J} {τ : am_T} {Q : am_Q} {x0 x1 x2 x3 : Value} {v w : Int32} : AW d 279 1516 [x0, x1, x2, x3] (.int w :: .int v :: st) σ ρ g τ Q = AW d 279 1517 [x0, x1, x2, x3] (.int (v + w) :: st) σ ρ g τ Q := aw_lc m279 d279_1516 rfl rfl rfl
theorem d279_1517 : decode cL_law 1517 = .ok (.iaload, 1) := by decide +kernel
theorem s279_1517 {d : Nat} {st : List Value} {σ : am_I} {ρ : am_R} {g : am_J} {τ : am_T} {Q : am_Q} {x0 x1 x2 x3 : Value} {a : Nat} {j : Int32} (ht : τ.1 a = 15) (hj : am_inb j (τ.2.1 a) = true) : AW d 279 1517 [x0, x1, x2, x3] (.int j :: .ref a :: st) σ ρ g τ Q = AW d 279 1518 [x0, x1, x2, x3] (.int (σ a j.toNatClampNeg) :: st) σ ρ g τ Q := aw_ial m279 d279_1517 rfl ht hj
theorem d279_1518 : decode cL_law 1518 = .ok (.aload_n 0, 1) := by decide +kernel
theorem s279_1518 {d : Nat} {st : List Value} {σ : am_I} {ρ : am_R} {g : am_J} {τ : am_T} {Q : am_Q} {x1 x2 x3 : Value} {v : Nat} : AW d 279 1518 [.ref v, x1, x2, x3] (st) σ ρ g τ Q = AW d 279 1519 [.ref v, x1, x2, x3] (.ref v :: st) σ ρ g τ Q := aw_lc m279 d279_1518 rfl rfl rfl
theorem d279_1519 : decode cL_law 1519 = .ok (.iload_n 3, 1) := by decide +kernel
theorem s279_1519 {d : Nat} {st : List Value} {σ : am_I} {ρ : am_R} {g : am_J} {τ : am_T} {Q : am_Q} {x0 x1 x2 : Value} {v : Int32} : AW d 279 1519 [x0, x1, x2, .int v] (st) σ ρ g τ Q = AW d 279 1520 [x0, x1, x2, .int v] (.int v :: st) σ ρ g τ Q := aw_lc m279 d279_1519 rfl rfl rfl
theorem d279_1520 : decode cL_law 1520 = .ok (.iconst 2, 1) := by decide +kernel
theorem s279_1520 {d : Nat} {st : List Value} {σ : am_I} {ρ : am_R} {g : am_J} {τ : am_T} {Q : am_Q} {x0 x1 x2 x3 : Value} : AW d 279 1520 [x0, x1, x2, x3] (st) σ ρ g τ Q = AW d 279 1521 [x0, x1, x2, x3] (.int 2 :: st) σ ρ g τ Q := aw_lc m279 d279_1520 rfl rfl rfl
theorem d279_1521 : decode cL_law 1521 = .ok (.iadd, 1) := by decide +kernel
theorem s279_1521 {d : Nat} {st : List Value} {σ : am_I} {ρ : am_R} {g : am_J} {τ : am_T} {Q : am_Q} {x0 x1 x2 x3 : Value} {v w : Int32} : AW d 279 1521 [x0, x1, x2, x3] (.int w :: .int v :: st) σ ρ g τ Q = AW d 279 1522 [x0, x1, x2, x3] (.int (v + w) :: st) σ ρ g τ Q := aw_lc m279 d279_1521 rfl rfl rfl
theorem d279_1522 : decode cL_law 1522 = .ok (.iaload, 1) := by decide +kernel
theorem s279_1522 {d : Nat} {st : List Value} {σ : am_I} {ρ : am_R} {g : am_J} {τ : am_T} {Q : am_Q} {x0 x1 x2 x3 : Value} {a : Nat} {j : Int32} (ht : τ.1 a = 15) (hj : am_inb j (τ.2.1 a) = true) : AW d 279 1522 [x0, x1, x2, x3] (.int j :: .ref a :: st) σ ρ g τ Q = AW d 279 1523 [x0, x1, x2, x3] (.int (σ a j.toNatClampNeg) :: st) σ ρ g τ Q := aw_ial m279 d279_1522 rfl ht hj
theorem d279_1523 : decode cL_law 1523 = .ok (.aload_n 0, 1) := by decide +kernel
theorem s279_1523 {d : Nat} {st : List Value} {σ : am_I} {ρ : am_R} {g : am_J} {τ : am_T} {Q : am_Q} {x1 x2 x3 : Value} {v : Nat} : AW d 279 1523 [.ref v, x1, x2, x3] (st) σ ρ g τ Q = AW d 279 1524 [.ref v, x1, x2, x3] (.ref v :: st) σ ρ g τ Q := aw_lc m279 d279_1523 rfl rfl rfl
theorem d279_1524 : decode cL_law 1524 = .ok (.iload_n 3, 1) := by decide +kernel
theorem s279_1524 {d : Nat} {st : List Value} {σ : am_I} {ρ : am_R} {g : am_J} {τ : am_T} {Q : am_Q} {x0 x1 x2 : Value} {v : Int32} : AW d 279 1524 [x0, x1, x2, .int v] (st) σ ρ g τ Q = AW d 279 1525 [x0, x1, x2, .int v] (.int v :: st) σ ρ g τ Q := aw_lc m279 d279_1524 rfl rfl rfl
theorem d279_1525 : decode cL_law 1525 = .ok (.iconst 3, 1) := by decide +kernel
theorem s279_1525 {d : Nat} {st : List Value} {σ : am_I} {ρ : am_R} {g : am_J} {τ : am_T} {Q : am_Q} {x0 x1 x2 x3 : Value} : AW d 279 1525 [x0, x1, x2, x3] (st) σ ρ g τ Q = AW d 279 1526 [x0, x1, x2, x3] (.int 3 :: st) σ ρ g τ Q := aw_lc m279 d279_1525 rfl rfl rfl
theorem d279_1526 : decode cL_law 1526 = .ok (.iadd, 1) := by decide +kernel
theorem s279_1526 {d : Nat} {st : List Value} {σ : am_I} {ρ : am_R} {g : am_J} {τ : am_T} {Q : am_Q} {x0 x1 x2 x3 : Value} {v w : Int32} : AW d 279 1526 [x0, x1, x2, x3] (.int w :: .int v :: st) σ ρ g τ Q = AW d 279 1527 [x0, x1, x2, x3] (.int (v + w) :: st) σ ρ g τ Q := aw_lc m279 d279_1526 rfl rfl rfl
theorem d279_1527 : decode cL_law 1527 = .ok (.iaload, 1) := by decide +kernel
theorem s279_1527 {d : Nat} {st : List Value} {σ : am_I} {ρ : am_R} {g : am_J} {τ : am_T} {Q : am_Q} {x0 x1 x2 x3 : Value} {a : Nat} {j : Int32} (ht : τ.1 a = 15) (hj : am_inb j (τ.2.1 a) = true) : AW d 279 1527 [x0, x1, x2, x3] (.int j :: .ref a :: st) σ ρ g τ Q = AW d 279 1528 [x0, x1, x2, x3] (.int (σ a j.toNatClampNeg) :: st) σ ρ g τ Q := aw_ial m279 d279_1527 rfl ht hj
theorem d279_1528 : decode cL_law 1528 = .ok (.invokevirtual 164, 3) := by decide +kernel
theorem s279_1528 {d : Nat} {st : List Value} {σ : am_I} {ρ : am_R} {g : am_J} {τ : am_T} {Q : am_Q} {x0 x1 x2 x3 : Value} {p0 : Nat} {p1 : Int32} {p2 : Int32} {p3 : Int32} (ht : τ.1 p0 = 12) (hs : st.length ≤ 4) : AW (d + 1) 279 1528 [x0, x1, x2, x3] (.int p3 :: .int p2 :: .int p1 :: .ref p0 :: st) σ ρ g τ Q = AW d 250 0 [.ref p0, .int p1, .int p2, .int p3, am_jk] [] σ ρ g τ (fun r9 σ ρ g τ => AW (d + 1) 279 1531 [x0, x1, x2, x3] (r9.toList ++ st) σ ρ g τ Q) := aw_cv m279 d279_1528 rfl m250 rfl rfl (by decide) en250 ok250 rfl ht hs
theorem d279_1531 : decode cL_law 1531 = .ok (.if_icmp .eq 282, 3) := by decide +kernel
theorem s279_1531 {d : Nat} {st : List Value} {σ : am_I} {ρ : am_R} {g : am_J} {τ : am_T} {Q : am_Q} {x0 x1 x2 x3 : Value} {v w : Int32} : AW d 279 1531 [x0, x1, x2, x3] (.int w :: .int v :: st) σ ρ g τ Q = if v = w then AW d 279 1813 [x0, x1, x2, x3] (st) σ ρ g τ Q else AW d 279 1534 [x0, x1, x2, x3] (st) σ ρ g τ Q := aw_br m279 d279_1531 rfl rfl rfl
theorem d279_1534 : decode cL_law 1534 = .ok (.iconst 0, 1) := by decide +kernel
theorem s279_1534 {d : Nat} {st : List Value} {σ : am_I} {ρ : am_R} {g : am_J} {τ : am_T} {Q : am_Q} {x0 x1 x2 x3 : Value} : AW d 279 1534 [x0, x1, x2, x3] (st) σ ρ g τ Q = AW d 279 1535 [x0, x1, x2, x3] (.int 0 :: st) σ ρ g τ Q := aw_lc m279 d279_1534 rfl rfl rfl
theorem d279_1535 : decode cL_law 1535 = .ok (.ireturn, 1) := by decide +kernel
theorem s279_1535 {d : Nat} {σ : am_I} {ρ : am_R} {g : am_J} {τ : am_T} {Q : am_Q} {x0 x1 x2 x3 : Value} {v : Int32} (hv : am_b01 v = true) : AW d 279 1535 [x0, x1, x2, x3] ([.int v]) σ ρ g τ Q = Q (some (.int v)) σ ρ g τ := aw_rz m279 d279_1535 rfl hv
theorem d279_1536 : decode cL_law 1536 = .ok (.aload_n 1, 1) := by decide +kernel
theorem s279_1536 {d : Nat} {st : List Value} {σ : am_I} {ρ : am_R} {g : am_J} {τ : am_T} {Q : am_Q} {x0 x2 x3 : Value} {v : Nat} : AW d 279 1536 [x0, .ref v, x2, x3] (st) σ ρ g τ Q = AW d 279 1537 [x0, .ref v, x2, x3] (.ref v :: st) σ ρ g τ Q := aw_lc m279 d279_1536 rfl rfl rfl
theorem d279_1537 : decode cL_law 1537 = .ok (.aload_n 0, 1) := by decide +kernel
theorem s279_1537 {d : Nat} {st : List Value} {σ : am_I} {ρ : am_R} {g : am_J} {τ : am_T} {Q : am_Q} {x1 x2 x3 : Value} {v : Nat} : AW d 279 1537 [.ref v, x1, x2, x3] (st) σ ρ g τ Q = AW d 279 1538 [.ref v, x1, x2, x3] (.ref v :: st) σ ρ g τ Q := aw_lc m279 d279_1537 rfl rfl rfl
theorem d279_1538 : decode cL_law 1538 = .ok (.iload_n 3, 1) := by decide +kernel
theorem s279_1538 {d : Nat} {st : List Value} {σ : am_I} {ρ : am_R} {g : am_J} {τ : am_T} {Q : am_Q} {x0 x1 x2 : Value} {v : Int32} : AW d 279 1538 [x0, x1, x2, .int v] (st) σ ρ g τ Q = AW d 279 1539 [x0, x1, x2, .int v] (.int v :: st) σ ρ g τ Q := aw_lc m279 d279_1538 rfl rfl rfl
theorem d279_1539 : decode cL_law 1539 = .ok (.iconst 1, 1) := by decide +kernel
theorem s279_1539 {d : Nat} {st : List Value} {σ : am_I} {ρ : am_R} {g : am_J} {τ : am_T} {Q : am_Q} {x0 x1 x2 x3 : Value} : AW d 279 1539 [x0, x1, x2, x3] (st) σ ρ g τ Q = AW d 279 1540 [x0, x1, x2, x3] (.int 1 :: st) σ ρ g τ Q := aw_lc m279 d279_1539 rfl rfl rfl
theorem d279_1540 : decode cL_law 1540 = .ok (.iadd, 1) := by decide +kernel
theorem s279_1540 {d : Nat} {st : List Value} {σ : am_I} {ρ : am_R} {g : am_J} {τ : am_T} {Q : am_Q} {x0 x1 x2 x3 : Value} {v w : Int32} : AW d 279 1540 [x0, x1, x2, x3] (.int w :: .int v :: st) σ ρ g τ Q = AW d 279 1541 [x0, x1, x2, x3] (.int (v + w) :: st) σ ρ g τ Q := aw_lc m279 d279_1540 rfl rfl rfl
theorem d279_1541 : decode cL_law 1541 = .ok (.iaload, 1) := by decide +kernel
theorem s279_1541 {d : Nat} {st : List Value} {σ : am_I} {ρ : am_R} {g : am_J} {τ : am_T} {Q : am_Q} {x0 x1 x2 x3 : Value} {a : Nat} {j : Int32} (ht : τ.1 a = 15) (hj : am_inb j (τ.2.1 a) = true) : AW d 279 1541 [x0, x1, x2, x3] (.int j :: .ref a :: st) σ ρ g τ Q = AW d 279 1542 [x0, x1, x2, x3] (.int (σ a j.toNatClampNeg) :: st) σ ρ g τ Q := aw_ial m279 d279_1541 rfl ht hj
theorem d279_1542 : decode cL_law 1542 = .ok (.aload_n 0, 1) := by decide +kernel
theorem s279_1542 {d : Nat} {st : List Value} {σ : am_I} {ρ : am_R} {g : am_J} {τ : am_T} {Q : am_Q} {x1 x2 x3 : Value} {v : Nat} : AW d 279 1542 [.ref v, x1, x2, x3] (st) σ ρ g τ Q = AW d 279 1543 [.ref v, x1, x2, x3] (.ref v :: st) σ ρ g τ Q := aw_lc m279 d279_1542 rfl rfl rfl
theorem d279_1543 : decode cL_law 1543 = .ok (.iload_n 3, 1) := by decide +kernel
theorem s279_1543 {d : Nat} {st : List Value} {σ : am_I} {ρ : am_R} {g : am_J} {τ : am_T} {Q : am_Q} {x0 x1 x2 : Value} {v : Int32} : AW d 279 1543 [x0, x1, x2, .int v] (st) σ ρ g τ Q = AW d 279 1544 [x0, x1, x2, .int v] (.int v :: st) σ ρ g τ Q := aw_lc m279 d279_1543 rfl rfl rfl
theorem d279_1544 : decode cL_law 1544 = .ok (.iconst 2, 1) := by decide +kernel
theorem s279_1544 {d : Nat} {st : List Value} {σ : am_I} {ρ : am_R} {g : am_J} {τ : am_T} {Q : am_Q} {x0 x1 x2 x3 : Value} : AW d 279 1544 [x0, x1, x2, x3] (st) σ ρ g τ Q = AW d 279 1545 [x0, x1, x2, x3] (.int 2 :: st) σ ρ g τ Q := aw_lc m279 d279_1544 rfl rfl rfl
theorem d279_1545 : decode cL_law 1545 = .ok (.iadd, 1) := by decide +kernel
theorem s279_1545 {d : Nat} {st : List Value} {σ : am_I} {ρ : am_R} {g : am_J} {τ : am_T} {Q : am_Q} {x0 x1 x2 x3 : Value} {v w : Int32} : AW d 279 1545 [x0, x1, x2, x3] (.int w :: .int v :: st) σ ρ g τ Q = AW d 279 1546 [x0, x1, x2, x3] (.int (v + w) :: st) σ ρ g τ Q := aw_lc m279 d279_1545 rfl rfl rfl
theorem d279_1546 : decode cL_law 1546 = .ok (.iaload, 1) := by decide +kernel
theorem s279_1546 {d : Nat} {st : List Value} {σ : am_I} {ρ : am_R} {g : am_J} {τ : am_T} {Q : am_Q} {x0 x1 x2 x3 : Value} {a : Nat} {j : Int32} (ht : τ.1 a = 15) (hj : am_inb j (τ.2.1 a) = true) : AW d 279 1546 [x0, x1, x2, x3] (.int j :: .ref a :: st) σ ρ g τ Q = AW d 279 1547 [x0, x1, x2, x3] (.int (σ a j.toNatClampNeg) :: st) σ ρ g τ Q := aw_ial m279 d279_1546 rfl ht hj
theorem d279_1547 : decode cL_law 1547 = .ok (.aload_n 0, 1) := by decide +kernel
theorem s279_1547 {d : Nat} {st : List Value} {σ : am_I} {ρ : am_R} {g : am_J} {τ : am_T} {Q : am_Q} {x1 x2 x3 : Value} {v : Nat} : AW d 279 1547 [.ref v, x1, x2, x3] (st) σ ρ g τ Q = AW d 279 1548 [.ref v, x1, x2, x3] (.ref v :: st) σ ρ g τ Q := aw_lc m279 d279_1547 rfl rfl rfl
theorem d279_1548 : decode cL_law 1548 = .ok (.iload_n 3, 1) := by decide +kernel
theorem s279_1548 {d : Nat} {st : List Value} {σ : am_I} {ρ : am_R} {g : am_J} {τ : am_T} {Q : am_Q} {x0 x1 x2 : Value} {v : Int32} : AW d 279 1548 [x0, x1, x2, .int v] (st) σ ρ g τ Q = AW d 279 1549 [x0, x1, x2, .int v] (.int v :: st) σ ρ g τ Q := aw_lc m279 d279_1548 rfl rfl rfl
theorem d279_1549 : decode cL_law 1549 = .ok (.iconst 3, 1) := by decide +kernel
theorem s279_1549 {d : Nat} {st : List Value} {σ : am_I} {ρ : am_R} {g : am_J} {τ : am_T} {Q : am_Q} {x0 x1 x2 x3 : Value} : AW d 279 1549 [x0, x1, x2, x3] (st) σ ρ g τ Q = AW d 279 1550 [x0, x1, x2, x3] (.int 3 :: st) σ ρ g τ Q := aw_lc m279 d279_1549 rfl rfl rfl
theorem d279_1550 : decode cL_law 1550 = .ok (.iadd, 1) := by decide +kernel
theorem s279_1550 {d : Nat} {st : List Value} {σ : am_I} {ρ : am_R} {g : am_J} {τ : am_T} {Q : am_Q} {x0 x1 x2 x3 : Value} {v w : Int32} : AW d 279 1550 [x0, x1, x2, x3] (.int w :: .int v :: st) σ ρ g τ Q = AW d 279 1551 [x0, x1, x2, x3] (.int (v + w) :: st) σ ρ g τ Q := aw_lc m279 d279_1550 rfl rfl rfl
theorem d279_1551 : decode cL_law 1551 = .ok (.iaload, 1) := by decide +kernel
theorem s279_1551 {d : Nat} {st : List Value} {σ : am_I} {ρ : am_R} {g : am_J} {τ : am_T} {Q : am_Q} {x0 x1 x2 x3 : Value} {a : Nat} {j : Int32} (ht : τ.1 a = 15) (hj : am_inb j (τ.2.1 a) = true) : AW d 279 1551 [x0, x1, x2, x3] (.int j :: .ref a :: st) σ ρ g τ Q = AW d 279 1552 [x0, x1, x2, x3] (.int (σ a j.toNatClampNeg) :: st) σ ρ g τ Q := aw_ial m279 d279_1551 rfl ht hj
theorem d279_1552 : decode cL_law 1552 = .ok (.invokevirtual 165, 3) := by decide +kernel
theorem s279_1552 {d : Nat} {st : List Value} {σ : am_I} {ρ : am_R} {g : am_J} {τ : am_T} {Q : am_Q} {x0 x1 x2 x3 : Value} {p0 : Nat} {p1 : Int32} {p2 : Int32} {p3 : Int32} (ht : τ.1 p0 = 11) (hs : st.length ≤ 4) : AW (d + 1) 279 1552 [x0, x1, x2, x3] (.int p3 :: .int p2 :: .int p1 :: .ref p0 :: st) σ ρ g τ Q = AW d 154 0 [.ref p0, .int p1, .int p2, .int p3, am_jk] [] σ ρ g τ (fun r9 σ ρ g τ => AW (d + 1) 279 1555 [x0, x1, x2, x3] (r9.toList ++ st) σ ρ g τ Q) := aw_cv m279 d279_1552 rfl m154 rfl rfl (by decide) en154 ok154 rfl ht hs
theorem d279_1555 : decode cL_law 1555 = .ok (.aload_n 2, 1) := by decide +kernel
theorem s279_1555 {d : Nat} {st : List Value} {σ : am_I} {ρ : am_R} {g : am_J} {τ : am_T} {Q : am_Q} {x0 x1 x3 : Value} {v : Nat} : AW d 279 1555 [x0, x1, .ref v, x3] (st) σ ρ g τ Q = AW d 279 1556 [x0, x1, .ref v, x3] (.ref v :: st) σ ρ g τ Q := aw_lc m279 d279_1555 rfl rfl rfl
theorem d279_1556 : decode cL_law 1556 = .ok (.aload_n 0, 1) := by decide +kernel
theorem s279_1556 {d : Nat} {st : List Value} {σ : am_I} {ρ : am_R} {g : am_J} {τ : am_T} {Q : am_Q} {x1 x2 x3 : Value} {v : Nat} : AW d 279 1556 [.ref v, x1, x2, x3] (st) σ ρ g τ Q = AW d 279 1557 [.ref v, x1, x2, x3] (.ref v :: st) σ ρ g τ Q := aw_lc m279 d279_1556 rfl rfl rfl
theorem d279_1557 : decode cL_law 1557 = .ok (.iload_n 3, 1) := by decide +kernel
theorem s279_1557 {d : Nat} {st : List Value} {σ : am_I} {ρ : am_R} {g : am_J} {τ : am_T} {Q : am_Q} {x0 x1 x2 : Value} {v : Int32} : AW d 279 1557 [x0, x1, x2, .int v] (st) σ ρ g τ Q = AW d 279 1558 [x0, x1, x2, .int v] (.int v :: st) σ ρ g τ Q := aw_lc m279 d279_1557 rfl rfl rfl
theorem d279_1558 : decode cL_law 1558 = .ok (.iconst 1, 1) := by decide +kernel
theorem s279_1558 {d : Nat} {st : List Value} {σ : am_I} {ρ : am_R} {g : am_J} {τ : am_T} {Q : am_Q} {x0 x1 x2 x3 : Value} : AW d 279 1558 [x0, x1, x2, x3] (st) σ ρ g τ Q = AW d 279 1559 [x0, x1, x2, x3] (.int 1 :: st) σ ρ g τ Q := aw_lc m279 d279_1558 rfl rfl rfl
theorem d279_1559 : decode cL_law 1559 = .ok (.iadd, 1) := by decide +kernel
theorem s279_1559 {d : Nat} {st : List Value} {σ : am_I} {ρ : am_R} {g : am_J} {τ : am_T} {Q : am_Q} {x0 x1 x2 x3 : Value} {v w : Int32} : AW d 279 1559 [x0, x1, x2, x3] (.int w :: .int v :: st) σ ρ g τ Q = AW d 279 1560 [x0, x1, x2, x3] (.int (v + w) :: st) σ ρ g τ Q := aw_lc m279 d279_1559 rfl rfl rfl
theorem d279_1560 : decode cL_law 1560 = .ok (.iaload, 1) := by decide +kernel
theorem s279_1560 {d : Nat} {st : List Value} {σ : am_I} {ρ : am_R} {g : am_J} {τ : am_T} {Q : am_Q} {x0 x1 x2 x3 : Value} {a : Nat} {j : Int32} (ht : τ.1 a = 15) (hj : am_inb j (τ.2.1 a) = true) : AW d 279 1560 [x0, x1, x2, x3] (.int j :: .ref a :: st) σ ρ g τ Q = AW d 279 1561 [x0, x1, x2, x3] (.int (σ a j.toNatClampNeg) :: st) σ ρ g τ Q := aw_ial m279 d279_1560 rfl ht hj
theorem d279_1561 : decode cL_law 1561 = .ok (.aload_n 0, 1) := by decide +kernel
theorem s279_1561 {d : Nat} {st : List Value} {σ : am_I} {ρ : am_R} {g : am_J} {τ : am_T} {Q : am_Q} {x1 x2 x3 : Value} {v : Nat} : AW d 279 1561 [.ref v, x1, x2, x3] (st) σ ρ g τ Q = AW d 279 1562 [.ref v, x1, x2, x3] (.ref v :: st) σ ρ g τ Q := aw_lc m279 d279_1561 rfl rfl rfl
theorem d279_1562 : decode cL_law 1562 = .ok (.iload_n 3, 1) := by decide +kernel
theorem s279_1562 {d : Nat} {st : List Value} {σ : am_I} {ρ : am_R} {g : am_J} {τ : am_T} {Q : am_Q} {x0 x1 x2 : Value} {v : Int32} : AW d 279 1562 [x0, x1, x2, .int v] (st) σ ρ g τ Q = AW d 279 1563 [x0, x1, x2, .int v] (.int v :: st) σ ρ g τ Q := aw_lc m279 d279_1562 rfl rfl rfl
theorem d279_1563 : decode cL_law 1563 = .ok (.iconst 2, 1) := by decide +kernel
theorem s279_1563 {d : Nat} {st : List Value} {σ : am_I} {ρ : am_R} {g : am_J} {τ : am_T} {Q : am_Q} {x0 x1 x2 x3 : Value} : AW d 279 1563 [x0, x1, x2, x3] (st) σ ρ g τ Q = AW d 279 1564 [x0, x1, x2, x3] (.int 2 :: st) σ ρ g τ Q := aw_lc m279 d279_1563 rfl rfl rfl
theorem d279_1564 : decode cL_law 1564 = .ok (.iadd, 1) := by decide +kernel
theorem s279_1564 {d : Nat} {st : List Value} {σ : am_I} {ρ : am_R} {g : am_J} {τ : am_T} {Q : am_Q} {x0 x1 x2 x3 : Value} {v w : Int32} : AW d 279 1564 [x0, x1, x2, x3] (.int w :: .int v :: st) σ ρ g τ Q = AW d 279 1565 [x0, x1, x2, x3] (.int (v + w) :: st) σ ρ g τ Q := aw_lc m279 d279_1564 rfl rfl rfl
theorem d279_1565 : decode cL_law 1565 = .ok (.iaload, 1) := by decide +kernel
theorem s279_1565 {d : Nat} {st : List Value} {σ : am_I} {ρ : am_R} {g : am_J} {τ : am_T} {Q : am_Q} {x0 x1 x2 x3 : Value} {a : Nat} {j : Int32} (ht : τ.1 a = 15) (hj : am_inb j (τ.2.1 a) = true) : AW d 279 1565 [x0, x1, x2, x3] (.int j :: .ref a :: st) σ ρ g τ Q = AW d 279 1566 [x0, x1, x2, x3] (.int (σ a j.toNatClampNeg) :: st) σ ρ g τ Q := aw_ial m279 d279_1565 rfl ht hj
theorem d279_1566 : decode cL_law 1566 = .ok (.aload_n 0, 1) := by decide +kernel
theorem s279_1566 {d : Nat} {st : List Value} {σ : am_I} {ρ : am_R} {g : am_J} {τ : am_T} {Q : am_Q} {x1 x2 x3 : Value} {v : Nat} : AW d 279 1566 [.ref v, x1, x2, x3] (st) σ ρ g τ Q = AW d 279 1567 [.ref v, x1, x2, x3] (.ref v :: st) σ ρ g τ Q := aw_lc m279 d279_1566 rfl rfl rfl
theorem d279_1567 : decode cL_law 1567 = .ok (.iload_n 3, 1) := by decide +kernel
theorem s279_1567 {d : Nat} {st : List Value} {σ : am_I} {ρ : am_R} {g : am_J} {τ : am_T} {Q : am_Q} {x0 x1 x2 : Value} {v : Int32} : AW d 279 1567 [x0, x1, x2, .int v] (st) σ ρ g τ Q = AW d 279 1568 [x0, x1, x2, .int v] (.int v :: st) σ ρ g τ Q := aw_lc m279 d279_1567 rfl rfl rfl
theorem d279_1568 : decode cL_law 1568 = .ok (.iconst 3, 1) := by decide +kernel
theorem s279_1568 {d : Nat} {st : List Value} {σ : am_I} {ρ : am_R} {g : am_J} {τ : am_T} {Q : am_Q} {x0 x1 x2 x3 : Value} : AW d 279 1568 [x0, x1, x2, x3] (st) σ ρ g τ Q = AW d 279 1569 [x0, x1, x2, x3] (.int 3 :: st) σ ρ g τ Q := aw_lc m279 d279_1568 rfl rfl rfl
theorem d279_1569 : decode cL_law 1569 = .ok (.iadd, 1) := by decide +kernel
theorem s279_1569 {d : Nat} {st : List Value} {σ : am_I} {ρ : am_R} {g : am_J} {τ : am_T} {Q : am_Q} {x0 x1 x2 x3 : Value} {v w : Int32} : AW d 279 1569 [x0, x1, x2, x3] (.int w :: .int v :: st) σ ρ g τ Q = AW d 279 1570 [x0, x1, x2, x3] (.int (v + w) :: st) σ ρ g τ Q := aw_lc m279 d279_1569 rfl rfl rfl
theorem d279_1570 : decode cL_law 1570 = .ok (.iaload, 1) := by decide +kernel
theorem s279_1570 {d : Nat} {st : List Value} {σ : am_I} {ρ : am_R} {g : am_J} {τ : am_T} {Q : am_Q} {x0 x1 x2 x3 : Value} {a : Nat} {j : Int32} (ht : τ.1 a = 15) (hj : am_inb j (τ.2.1 a) = true) : AW d 279 1570 [x0, x1, x2, x3] (.int j :: .ref a :: st) σ ρ g τ Q = AW d 279 1571 [x0, x1, x2, x3] (.int (σ a j.toNatClampNeg) :: st) σ ρ g τ Q := aw_ial m279 d279_1570 rfl ht hj
theorem d279_1571 : decode cL_law 1571 = .ok (.invokevirtual 168, 3) := by decide +kernel
theorem s279_1571 {d : Nat} {st : List Value} {σ : am_I} {ρ : am_R} {g : am_J} {τ : am_T} {Q : am_Q} {x0 x1 x2 x3 : Value} {p0 : Nat} {p1 : Int32} {p2 : Int32} {p3 : Int32} (ht : τ.1 p0 = 12) (hs : st.length ≤ 4) : AW (d + 1) 279 1571 [x0, x1, x2, x3] (.int p3 :: .int p2 :: .int p1 :: .ref p0 :: st) σ ρ g τ Q = AW d 251 0 [.ref p0, .int p1, .int p2, .int p3] [] σ ρ g τ (fun r9 σ ρ g τ => AW (d + 1) 279 1574 [x0, x1, x2, x3] (r9.toList ++ st) σ ρ g τ Q) := aw_cv m279 d279_1571 rfl m251 rfl rfl (by decide) en251 ok251 rfl ht hs
theorem d279_1574 : decode cL_law 1574 = .ok (.if_icmp .eq 239, 3) := by decide +kernel
theorem s279_1574 {d : Nat} {st : List Value} {σ : am_I} {ρ : am_R} {g : am_J} {τ : am_T} {Q : am_Q} {x0 x1 x2 x3 : Value} {v w : Int32} : AW d 279 1574 [x0, x1, x2, x3] (.int w :: .int v :: st) σ ρ g τ Q = if v = w then AW d 279 1813 [x0, x1, x2, x3] (st) σ ρ g τ Q else AW d 279 1577 [x0, x1, x2, x3] (st) σ ρ g τ Q := aw_br m279 d279_1574 rfl rfl rfl
theorem d279_1577 : decode cL_law 1577 = .ok (.iconst 0, 1) := by decide +kernel
theorem s279_1577 {d : Nat} {st : List Value} {σ : am_I} {ρ : am_R} {g : am_J} {τ : am_T} {Q : am_Q} {x0 x1 x2 x3 : Value} : AW d 279 1577 [x0, x1, x2, x3] (st) σ ρ g τ Q = AW d 279 1578 [x0, x1, x2, x3] (.int 0 :: st) σ ρ g τ Q := aw_lc m279 d279_1577 rfl rfl rfl
theorem d279_1578 : decode cL_law 1578 = .ok (.ireturn, 1) := by decide +kernel
theorem s279_1578 {d : Nat} {σ : am_I} {ρ : am_R} {g : am_J} {τ : am_T} {Q : am_Q} {x0 x1 x2 x3 : Value} {v : Int32} (hv : am_b01 v = true) : AW d 279 1578 [x0, x1, x2, x3] ([.int v]) σ ρ g τ Q = Q (some (.int v)) σ ρ g τ := aw_rz m279 d279_1578 rfl hv
theorem d279_1579 : decode cL_law 1579 = .ok (.aload_n 1, 1) := by decide +kernel
theorem s279_1579 {d : Nat} {st : List Value} {σ : am_I} {ρ : am_R} {g : am_J} {τ : am_T} {Q : am_Q} {x0 x2 x3 : Value} {v : Nat} : AW d 279 1579 [x0, .ref v, x2, x3] (st) σ ρ g τ Q = AW d 279 1580 [x0, .ref v, x2, x3] (.ref v :: st) σ ρ g τ Q := aw_lc m279 d279_1579 rfl rfl rfl
theorem d279_1580 : decode cL_law 1580 = .ok (.aload_n 0, 1) := by decide +kernel
theorem s279_1580 {d : Nat} {st : List Value} {σ : am_I} {ρ : am_R} {g : am_J} {τ : am_T} {Q : am_Q} {x1 x2 x3 : Value} {v : Nat} : AW d 279 1580 [.ref v, x1, x2, x3] (st) σ ρ g τ Q = AW d 279 1581 [.ref v, x1, x2, x3] (.ref v :: st) σ ρ g τ Q := aw_lc m279 d279_1580 rfl rfl rfl
theorem d279_1581 : decode cL_law 1581 = .ok (.iload_n 3, 1) := by decide +kernel
theorem s279_1581 {d : Nat} {st : List Value} {σ : am_I} {ρ : am_R} {g : am_J} {τ : am_T} {Q : am_Q} {x0 x1 x2 : Value} {v : Int32} : AW d 279 1581 [x0, x1, x2, .int v] (st) σ ρ g τ Q = AW d 279 1582 [x0, x1, x2, .int v] (.int v :: st) σ ρ g τ Q := aw_lc m279 d279_1581 rfl rfl rfl
theorem d279_1582 : decode cL_law 1582 = .ok (.iconst 1, 1) := by decide +kernel
theorem s279_1582 {d : Nat} {st : List Value} {σ : am_I} {ρ : am_R} {g : am_J} {τ : am_T} {Q : am_Q} {x0 x1 x2 x3 : Value} : AW d 279 1582 [x0, x1, x2, x3] (st) σ ρ g τ Q = AW d 279 1583 [x0, x1, x2, x3] (.int 1 :: st) σ ρ g τ Q := aw_lc m279 d279_1582 rfl rfl rfl
theorem d279_1583 : decode cL_law 1583 = .ok (.iadd, 1) := by decide +kernel
theorem s279_1583 {d : Nat} {st : List Value} {σ : am_I} {ρ : am_R} {g : am_J} {τ : am_T} {Q : am_Q} {x0 x1 x2 x3 : Value} {v w : Int32} : AW d 279 1583 [x0, x1, x2, x3] (.int w :: .int v :: st) σ ρ g τ Q = AW d 279 1584 [x0, x1, x2, x3] (.int (v + w) :: st) σ ρ g τ Q := aw_lc m279 d279_1583 rfl rfl rfl
theorem d279_1584 : decode cL_law 1584 = .ok (.iaload, 1) := by decide +kernel
theorem s279_1584 {d : Nat} {st : List Value} {σ : am_I} {ρ : am_R} {g : am_J} {τ : am_T} {Q : am_Q} {x0 x1 x2 x3 : Value} {a : Nat} {j : Int32} (ht : τ.1 a = 15) (hj : am_inb j (τ.2.1 a) = true) : AW d 279 1584 [x0, x1, x2, x3] (.int j :: .ref a :: st) σ ρ g τ Q = AW d 279 1585 [x0, x1, x2, x3] (.int (σ a j.toNatClampNeg) :: st) σ ρ g τ Q := aw_ial m279 d279_1584 rfl ht hj
theorem d279_1585 : decode cL_law 1585 = .ok (.aload_n 0, 1) := by decide +kernel
theorem s279_1585 {d : Nat} {st : List Value} {σ : am_I} {ρ : am_R} {g : am_J} {τ : am_T} {Q : am_Q} {x1 x2 x3 : Value} {v : Nat} : AW d 279 1585 [.ref v, x1, x2, x3] (st) σ ρ g τ Q = AW d 279 1586 [.ref v, x1, x2, x3] (.ref v :: st) σ ρ g τ Q := aw_lc m279 d279_1585 rfl rfl rfl
theorem d279_1586 : decode cL_law 1586 = .ok (.iload_n 3, 1) := by decide +kernel
theorem s279_1586 {d : Nat} {st : List Value} {σ : am_I} {ρ : am_R} {g : am_J} {τ : am_T} {Q : am_Q} {x0 x1 x2 : Value} {v : Int32} : AW d 279 1586 [x0, x1, x2, .int v] (st) σ ρ g τ Q = AW d 279 1587 [x0, x1, x2, .int v] (.int v :: st) σ ρ g τ Q := aw_lc m279 d279_1586 rfl rfl rfl
theorem d279_1587 : decode cL_law 1587 = .ok (.iconst 2, 1) := by decide +kernel
theorem s279_1587 {d : Nat} {st : List Value} {σ : am_I} {ρ : am_R} {g : am_J} {τ : am_T} {Q : am_Q} {x0 x1 x2 x3 : Value} : AW d 279 1587 [x0, x1, x2, x3] (st) σ ρ g τ Q = AW d 279 1588 [x0, x1, x2, x3] (.int 2 :: st) σ ρ g τ Q := aw_lc m279 d279_1587 rfl rfl rfl
theorem d279_1588 : decode cL_law 1588 = .ok (.iadd, 1) := by decide +kernel
theorem s279_1588 {d : Nat} {st : List Value} {σ : am_I} {ρ : am_R} {g : am_J} {τ : am_T} {Q : am_Q} {x0 x1 x2 x3 : Value} {v w : Int32} : AW d 279 1588 [x0, x1, x2, x3] (.int w :: .int v :: st) σ ρ g τ Q = AW d 279 1589 [x0, x1, x2, x3] (.int (v + w) :: st) σ ρ g τ Q := aw_lc m279 d279_1588 rfl rfl rfl
theorem d279_1589 : decode cL_law 1589 = .ok (.iaload, 1) := by decide +kernel
theorem s279_1589 {d : Nat} {st : List Value} {σ : am_I} {ρ : am_R} {g : am_J} {τ : am_T} {Q : am_Q} {x0 x1 x2 x3 : Value} {a : Nat} {j : Int32} (ht : τ.1 a = 15) (hj : am_inb j (τ.2.1 a) = true) : AW d 279 1589 [x0, x1, x2, x3] (.int j :: .ref a :: st) σ ρ g τ Q = AW d 279 1590 [x0, x1, x2, x3] (.int (σ a j.toNatClampNeg) :: st) σ ρ g τ Q := aw_ial m279 d279_1589 rfl ht hj
theorem d279_1590 : decode cL_law 1590 = .ok (.aload_n 0, 1) := by decide +kernel
theorem s279_1590 {d : Nat} {st : List Value} {σ : am_I} {ρ : am_R} {g : am_J} {τ : am_T} {Q : am_Q} {x1 x2 x3 : Value} {v : Nat} : AW d 279 1590 [.ref v, x1, x2, x3] (st) σ ρ g τ Q = AW d 279 1591 [.ref v, x1, x2, x3] (.ref v :: st) σ ρ g τ Q := aw_lc m279 d279_1590 rfl rfl rfl
theorem d279_1591 : decode cL_law 1591 = .ok (.iload_n 3, 1) := by decide +kernel
theorem s279_1591 {d : Nat} {st : List Value} {σ : am_I} {ρ : am_R} {g : am_J} {τ : am_T} {Q : am_Q} {x0 x1 x2 : Value} {v : Int32} : AW d 279 1591 [x0, x1, x2, .int v] (st) σ ρ g τ Q = AW d 279 1592 [x0, x1, x2, .int v] (.int v :: st) σ ρ g τ Q := aw_lc m279 d279_1591 rfl rfl rfl
theorem d279_1592 : decode cL_law 1592 = .ok (.iconst 3, 1) := by decide +kernel
theorem s279_1592 {d : Nat} {st : List Value} {σ : am_I} {ρ : am_R} {g : am_J} {τ : am_T} {Q : am_Q} {x0 x1 x2 x3 : Value} : AW d 279 1592 [x0, x1, x2, x3] (st) σ ρ g τ Q = AW d 279 1593 [x0, x1, x2, x3] (.int 3 :: st) σ ρ g τ Q := aw_lc m279 d279_1592 rfl rfl rfl
theorem d279_1593 : decode cL_law 1593 = .ok (.iadd, 1) := by decide +kernel
theorem s279_1593 {d : Nat} {st : List Value} {σ : am_I} {ρ : am_R} {g : am_J} {τ : am_T} {Q : am_Q} {x0 x1 x2 x3 : Value} {v w : Int32} : AW d 279 1593 [x0, x1, x2, x3] (.int w :: .int v :: st) σ ρ g τ Q = AW d 279 1594 [x0, x1, x2, x3] (.int (v + w) :: st) σ ρ g τ Q := aw_lc m279 d279_1593 rfl rfl rfl
theorem d279_1594 : decode cL_law 1594 = .ok (.iaload, 1) := by decide +kernel
theorem s279_1594 {d : Nat} {st : List Value} {σ : am_I} {ρ : am_R} {g : am_J} {τ : am_T} {Q : am_Q} {x0 x1 x2 x3 : Value} {a : Nat} {j : Int32} (ht : τ.1 a = 15) (hj : am_inb j (τ.2.1 a) = true) : AW d 279 1594 [x0, x1, x2, x3] (.int j :: .ref a :: st) σ ρ g τ Q = AW d 279 1595 [x0, x1, x2, x3] (.int (σ a j.toNatClampNeg) :: st) σ ρ g τ Q := aw_ial m279 d279_1594 rfl ht hj
theorem d279_1595 : decode cL_law 1595 = .ok (.invokevirtual 169, 3) := by decide +kernel
theorem s279_1595 {d : Nat} {st : List Value} {σ : am_I} {ρ : am_R} {g : am_J} {τ : am_T} {Q : am_Q} {x0 x1 x2 x3 : Value} {p0 : Nat} {p1 : Int32} {p2 : Int32} {p3 : Int32} (ht : τ.1 p0 = 11) (hs : st.length ≤ 4) : AW (d + 1) 279 1595 [x0, x1, x2, x3] (.int p3 :: .int p2 :: .int p1 :: .ref p0 :: st) σ ρ g τ Q = AW d 155 0 [.ref p0, .int p1, .int p2, .int p3, am_jk] [] σ ρ g τ (fun r9 σ ρ g τ => AW (d + 1) 279 1598 [x0, x1, x2, x3] (r9.toList ++ st) σ ρ g τ Q) := aw_cv m279 d279_1595 rfl m155 rfl rfl (by decide) en155 ok155 rfl ht hs
theorem d279_1598 : decode cL_law 1598 = .ok (.aload_n 2, 1) := by decide +kernel
theorem s279_1598 {d : Nat} {st : List Value} {σ : am_I} {ρ : am_R} {g : am_J} {τ : am_T} {Q : am_Q} {x0 x1 x3 : Value} {v : Nat} : AW d 279 1598 [x0, x1, .ref v, x3] (st) σ ρ g τ Q = AW d 279 1599 [x0, x1, .ref v, x3] (.ref v :: st) σ ρ g τ Q := aw_lc m279 d279_1598 rfl rfl rfl
theorem d279_1599 : decode cL_law 1599 = .ok (.aload_n 0, 1) := by decide +kernel
theorem s279_1599 {d : Nat} {st : List Value} {σ : am_I} {ρ : am_R} {g : am_J} {τ : am_T} {Q : am_Q} {x1 x2 x3 : Value} {v : Nat} : AW d 279 1599 [.ref v, x1, x2, x3] (st) σ ρ g τ Q = AW d 279 1600 [.ref v, x1, x2, x3] (.ref v :: st) σ ρ g τ Q := aw_lc m279 d279_1599 rfl rfl rfl
theorem d279_1600 : decode cL_law 1600 = .ok (.iload_n 3, 1) := by decide +kernel
theorem s279_1600 {d : Nat} {st : List Value} {σ : am_I} {ρ : am_R} {g : am_J} {τ : am_T} {Q : am_Q} {x0 x1 x2 : Value} {v : Int32} : AW d 279 1600 [x0, x1, x2, .int v] (st) σ ρ g τ Q = AW d 279 1601 [x0, x1, x2, .int v] (.int v :: st) σ ρ g τ Q := aw_lc m279 d279_1600 rfl rfl rfl
theorem d279_1601 : decode cL_law 1601 = .ok (.iconst 1, 1) := by decide +kernel
theorem s279_1601 {d : Nat} {st : List Value} {σ : am_I} {ρ : am_R} {g : am_J} {τ : am_T} {Q : am_Q} {x0 x1 x2 x3 : Value} : AW d 279 1601 [x0, x1, x2, x3] (st) σ ρ g τ Q = AW d 279 1602 [x0, x1, x2, x3] (.int 1 :: st) σ ρ g τ Q := aw_lc m279 d279_1601 rfl rfl rfl
theorem d279_1602 : decode cL_law 1602 = .ok (.iadd, 1) := by decide +kernel
theorem s279_1602 {d : Nat} {st : List Value} {σ : am_I} {ρ : am_R} {g : am_J} {τ : am_T} {Q : am_Q} {x0 x1 x2 x3 : Value} {v w : Int32} : AW d 279 1602 [x0, x1, x2, x3] (.int w :: .int v :: st) σ ρ g τ Q = AW d 279 1603 [x0, x1, x2, x3] (.int (v + w) :: st) σ ρ g τ Q := aw_lc m279 d279_1602 rfl rfl rfl
theorem d279_1603 : decode cL_law 1603 = .ok (.iaload, 1) := by decide +kernel
theorem s279_1603 {d : Nat} {st : List Value} {σ : am_I} {ρ : am_R} {g : am_J} {τ : am_T} {Q : am_Q} {x0 x1 x2 x3 : Value} {a : Nat} {j : Int32} (ht : τ.1 a = 15) (hj : am_inb j (τ.2.1 a) = true) : AW d 279 1603 [x0, x1, x2, x3] (.int j :: .ref a :: st) σ ρ g τ Q = AW d 279 1604 [x0, x1, x2, x3] (.int (σ a j.toNatClampNeg) :: st) σ ρ g τ Q := aw_ial m279 d279_1603 rfl ht hj
theorem d279_1604 : decode cL_law 1604 = .ok (.aload_n 0, 1) := by decide +kernel
theorem s279_1604 {d : Nat} {st : List Value} {σ : am_I} {ρ : am_R} {g : am_J} {τ : am_T} {Q : am_Q} {x1 x2 x3 : Value} {v : Nat} : AW d 279 1604 [.ref v, x1, x2, x3] (st) σ ρ g τ Q = AW d 279 1605 [.ref v, x1, x2, x3] (.ref v :: st) σ ρ g τ Q := aw_lc m279 d279_1604 rfl rfl rfl
theorem d279_1605 : decode cL_law 1605 = .ok (.iload_n 3, 1) := by decide +kernel
theorem s279_1605 {d : Nat} {st : List Value} {σ : am_I} {ρ : am_R} {g : am_J} {τ : am_T} {Q : am_Q} {x0 x1 x2 : Value} {v : Int32} : AW d 279 1605 [x0, x1, x2, .int v] (st) σ ρ g τ Q = AW d 279 1606 [x0, x1, x2, .int v] (.int v :: st) σ ρ g τ Q := aw_lc m279 d279_1605 rfl rfl rfl
theorem d279_1606 : decode cL_law 1606 = .ok (.iconst 2, 1) := by decide +kernel
theorem s279_1606 {d : Nat} {st : List Value} {σ : am_I} {ρ : am_R} {g : am_J} {τ : am_T} {Q : am_Q} {x0 x1 x2 x3 : Value} : AW d 279 1606 [x0, x1, x2, x3] (st) σ ρ g τ Q = AW d 279 1607 [x0, x1, x2, x3] (.int 2 :: st) σ ρ g τ Q := aw_lc m279 d279_1606 rfl rfl rfl
theorem d279_1607 : decode cL_law 1607 = .ok (.iadd, 1) := by decide +kernel
theorem s279_1607 {d : Nat} {st : List Value} {σ : am_I} {ρ : am_R} {g : am_J} {τ : am_T} {Q : am_Q} {x0 x1 x2 x3 : Value} {v w : Int32} : AW d 279 1607 [x0, x1, x2, x3] (.int w :: .int v :: st) σ ρ g τ Q = AW d 279 1608 [x0, x1, x2, x3] (.int (v + w) :: st) σ ρ g τ Q := aw_lc m279 d279_1607 rfl rfl rfl
theorem d279_1608 : decode cL_law 1608 = .ok (.iaload, 1) := by decide +kernel
theorem s279_1608 {d : Nat} {st : List Value} {σ : am_I} {ρ : am_R} {g : am_J} {τ : am_T} {Q : am_Q} {x0 x1 x2 x3 : Value} {a : Nat} {j : Int32} (ht : τ.1 a = 15) (hj : am_inb j (τ.2.1 a) = true) : AW d 279 1608 [x0, x1, x2, x3] (.int j :: .ref a :: st) σ ρ g τ Q = AW d 279 1609 [x0, x1, x2, x3] (.int (σ a j.toNatClampNeg) :: st) σ ρ g τ Q := aw_ial m279 d279_1608 rfl ht hj
theorem d279_1609 : decode cL_law 1609 = .ok (.aload_n 0, 1) := by decide +kernel
theorem s279_1609 {d : Nat} {st : List Value} {σ : am_I} {ρ : am_R} {g : am_J} {τ : am_T} {Q : am_Q} {x1 x2 x3 : Value} {v : Nat} : AW d 279 1609 [.ref v, x1, x2, x3] (st) σ ρ g τ Q = AW d 279 1610 [.ref v, x1, x2, x3] (.ref v :: st) σ ρ g τ Q := aw_lc m279 d279_1609 rfl rfl rfl
theorem d279_1610 : decode cL_law 1610 = .ok (.iload_n 3, 1) := by decide +kernel
theorem s279_1610 {d : Nat} {st : List Value} {σ : am_I} {ρ : am_R} {g : am_J} {τ : am_T} {Q : am_Q} {x0 x1 x2 : Value} {v : Int32} : AW d 279 1610 [x0, x1, x2, .int v] (st) σ ρ g τ Q = AW d 279 1611 [x0, x1, x2, .int v] (.int v :: st) σ ρ g τ Q := aw_lc m279 d279_1610 rfl rfl rfl
theorem d279_1611 : decode cL_law 1611 = .ok (.iconst 3, 1) := by decide +kernel
theorem s279_1611 {d : Nat} {st : List Value} {σ : am_I} {ρ : am_R} {g : am_J} {τ : am_T} {Q : am_Q} {x0 x1 x2 x3 : Value} : AW d 279 1611 [x0, x1, x2, x3] (st) σ ρ g τ Q = AW d 279 1612 [x0, x1, x2, x3] (.int 3 :: st) σ ρ g τ Q := aw_lc m279 d279_1611 rfl rfl rfl
theorem d279_1612 : decode cL_law 1612 = .ok (.iadd, 1) := by decide +kernel
theorem s279_1612 {d : Nat} {st : List Value} {σ : am_I} {ρ : am_R} {g : am_J} {τ : am_T} {Q : am_Q} {x0 x1 x2 x3 : Value} {v w : Int32} : AW d 279 1612 [x0, x1, x2, x3] (.int w :: .int v :: st) σ ρ g τ Q = AW d 279 1613 [x0, x1, x2, x3] (.int (v + w) :: st) σ ρ g τ Q := aw_lc m279 d279_1612 rfl rfl rfl
theorem d279_1613 : decode cL_law 1613 = .ok (.iaload, 1) := by decide +kernel
theorem s279_1613 {d : Nat} {st : List Value} {σ : am_I} {ρ : am_R} {g : am_J} {τ : am_T} {Q : am_Q} {x0 x1 x2 x3 : Value} {a : Nat} {j : Int32} (ht : τ.1 a = 15) (hj : am_inb j (τ.2.1 a) = true) : AW d 279 1613 [x0, x1, x2, x3] (.int j :: .ref a :: st) σ ρ g τ Q = AW d 279 1614 [x0, x1, x2, x3] (.int (σ a j.toNatClampNeg) :: st) σ ρ g τ Q := aw_ial m279 d279_1613 rfl ht hj
theorem d279_1614 : decode cL_law 1614 = .ok (.invokevirtual 172, 3) := by decide +kernel
theorem s279_1614 {d : Nat} {st : List Value} {σ : am_I} {ρ : am_R} {g : am_J} {τ : am_T} {Q : am_Q} {x0 x1 x2 x3 : Value} {p0 : Nat} {p1 : Int32} {p2 : Int32} {p3 : Int32} (ht : τ.1 p0 = 12) (hs : st.length ≤ 4) : AW (d + 1) 279 1614 [x0, x1, x2, x3] (.int p3 :: .int p2 :: .int p1 :: .ref p0 :: st) σ ρ g τ Q = AW d 252 0 [.ref p0, .int p1, .int p2, .int p3] [] σ ρ g τ (fun r9 σ ρ g τ => AW (d + 1) 279 1617 [x0, x1, x2, x3] (r9.toList ++ st) σ ρ g τ Q) := aw_cv m279 d279_1614 rfl m252 rfl rfl (by decide) en252 ok252 rfl ht hs
theorem d279_1617 : decode cL_law 1617 = .ok (.if_icmp .eq 196, 3) := by decide +kernel
theorem s279_1617 {d : Nat} {st : List Value} {σ : am_I} {ρ : am_R} {g : am_J} {τ : am_T} {Q : am_Q} {x0 x1 x2 x3 : Value} {v w : Int32} : AW d 279 1617 [x0, x1, x2, x3] (.int w :: .int v :: st) σ ρ g τ Q = if v = w then AW d 279 1813 [x0, x1, x2, x3] (st) σ ρ g τ Q else AW d 279 1620 [x0, x1, x2, x3] (st) σ ρ g τ Q := aw_br m279 d279_1617 rfl rfl rfl
theorem d279_1620 : decode cL_law 1620 = .ok (.iconst 0, 1) := by decide +kernel
theorem s279_1620 {d : Nat} {st : List Value} {σ : am_I} {ρ : am_R} {g : am_J} {τ : am_T} {Q : am_Q} {x0 x1 x2 x3 : Value} : AW d 279 1620 [x0, x1, x2, x3] (st) σ ρ g τ Q = AW d 279 1621 [x0, x1, x2, x3] (.int 0 :: st) σ ρ g τ Q := aw_lc m279 d279_1620 rfl rfl rfl
theorem d279_1621 : decode cL_law 1621 = .ok (.ireturn, 1) := by decide +kernel
theorem s279_1621 {d : Nat} {σ : am_I} {ρ : am_R} {g : am_J} {τ : am_T} {Q : am_Q} {x0 x1 x2 x3 : Value} {v : Int32} (hv : am_b01 v = true) : AW d 279 1621 [x0, x1, x2, x3] ([.int v]) σ ρ g τ Q = Q (some (.int v)) σ ρ g τ := aw_rz m279 d279_1621 rfl hv
theorem d279_1622 : decode cL_law 1622 = .ok (.aload_n 1, 1) := by decide +kernel
theorem s279_1622 {d : Nat} {st : List Value} {σ : am_I} {ρ : am_R} {g : am_J} {τ : am_T} {Q : am_Q} {x0 x2 x3 : Value} {v : Nat} : AW d 279 1622 [x0, .ref v, x2, x3] (st) σ ρ g τ Q = AW d 279 1623 [x0, .ref v, x2, x3] (.ref v :: st) σ ρ g τ Q := aw_lc m279 d279_1622 rfl rfl rfl
theorem d279_1623 : decode cL_law 1623 = .ok (.aload_n 0, 1) := by decide +kernel
theorem s279_1623 {d : Nat} {st : List Value} {σ : am_I} {ρ : am_R} {g : am_J} {τ : am_T} {Q : am_Q} {x1 x2 x3 : Value} {v : Nat} : AW d 279 1623 [.ref v, x1, x2, x3] (st) σ ρ g τ Q = AW d 279 1624 [.ref v, x1, x2, x3] (.ref v :: st) σ ρ g τ Q := aw_lc m279 d279_1623 rfl rfl rfl
theorem d279_1624 : decode cL_law 1624 = .ok (.iload_n 3, 1) := by decide +kernel
theorem s279_1624 {d : Nat} {st : List Value} {σ : am_I} {ρ : am_R} {g : am_J} {τ : am_T} {Q : am_Q} {x0 x1 x2 : Value} {v : Int32} : AW d 279 1624 [x0, x1, x2, .int v] (st) σ ρ g τ Q = AW d 279 1625 [x0, x1, x2, .int v] (.int v :: st) σ ρ g τ Q := aw_lc m279 d279_1624 rfl rfl rfl
theorem d279_1625 : decode cL_law 1625 = .ok (.iconst 1, 1) := by decide +kernel
theorem s279_1625 {d : Nat} {st : List Value} {σ : am_I} {ρ : am_R} {g : am_J} {τ : am_T} {Q : am_Q} {x0 x1 x2 x3 : Value} : AW d 279 1625 [x0, x1, x2, x3] (st) σ ρ g τ Q = AW d 279 1626 [x0, x1, x2, x3] (.int 1 :: st) σ ρ g τ Q := aw_lc m279 d279_1625 rfl rfl rfl
theorem d279_1626 : decode cL_law 1626 = .ok (.iadd, 1) := by decide +kernel
theorem s279_1626 {d : Nat} {st : List Value} {σ : am_I} {ρ : am_R} {g : am_J} {τ : am_T} {Q : am_Q} {x0 x1 x2 x3 : Value} {v w : Int32} : AW d 279 1626 [x0, x1, x2, x3] (.int w :: .int v :: st) σ ρ g τ Q = AW d 279 1627 [x0, x1, x2, x3] (.int (v + w) :: st) σ ρ g τ Q := aw_lc m279 d279_1626 rfl rfl rfl
theorem d279_1627 : decode cL_law 1627 = .ok (.iaload, 1) := by decide +kernel
theorem s279_1627 {d : Nat} {st : List Value} {σ : am_I} {ρ : am_R} {g : am_J} {τ : am_T} {Q : am_Q} {x0 x1 x2 x3 : Value} {a : Nat} {j : Int32} (ht : τ.1 a = 15) (hj : am_inb j (τ.2.1 a) = true) : AW d 279 1627 [x0, x1, x2, x3] (.int j :: .ref a :: st) σ ρ g τ Q = AW d 279 1628 [x0, x1, x2, x3] (.int (σ a j.toNatClampNeg) :: st) σ ρ g τ Q := aw_ial m279 d279_1627 rfl ht hj
theorem d279_1628 : decode cL_law 1628 = .ok (.aload_n 0, 1) := by decide +kernel
theorem s279_1628 {d : Nat} {st : List Value} {σ : am_I} {ρ : am_R} {g : am_J} {τ : am_T} {Q : am_Q} {x1 x2 x3 : Value} {v : Nat} : AW d 279 1628 [.ref v, x1, x2, x3] (st) σ ρ g τ Q = AW d 279 1629 [.ref v, x1, x2, x3] (.ref v :: st) σ ρ g τ Q := aw_lc m279 d279_1628 rfl rfl rfl
theorem d279_1629 : decode cL_law 1629 = .ok (.iload_n 3, 1) := by decide +kernel
theorem s279_1629 {d : Nat} {st : List Value} {σ : am_I} {ρ : am_R} {g : am_J} {τ : am_T} {Q : am_Q} {x0 x1 x2 : Value} {v : Int32} : AW d 279 1629 [x0, x1, x2, .int v] (st) σ ρ g τ Q = AW d 279 1630 [x0, x1, x2, .int v] (.int v :: st) σ ρ g τ Q := aw_lc m279 d279_1629 rfl rfl rfl
theorem d279_1630 : decode cL_law 1630 = .ok (.iconst 2, 1) := by decide +kernel
theorem s279_1630 {d : Nat} {st : List Value} {σ : am_I} {ρ : am_R} {g : am_J} {τ : am_T} {Q : am_Q} {x0 x1 x2 x3 : Value} : AW d 279 1630 [x0, x1, x2, x3] (st) σ ρ g τ Q = AW d 279 1631 [x0, x1, x2, x3] (.int 2 :: st) σ ρ g τ Q := aw_lc m279 d279_1630 rfl rfl rfl
theorem d279_1631 : decode cL_law 1631 = .ok (.iadd, 1) := by decide +kernel
theorem s279_1631 {d : Nat} {st : List Value} {σ : am_I} {ρ : am_R} {g : am_J} {τ : am_T} {Q : am_Q} {x0 x1 x2 x3 : Value} {v w : Int32} : AW d 279 1631 [x0, x1, x2, x3] (.int w :: .int v :: st) σ ρ g τ Q = AW d 279 1632 [x0, x1, x2, x3] (.int (v + w) :: st) σ ρ g τ Q := aw_lc m279 d279_1631 rfl rfl rfl
theorem d279_1632 : decode cL_law 1632 = .ok (.iaload, 1) := by decide +kernel
theorem s279_1632 {d : Nat} {st : List Value} {σ : am_I} {ρ : am_R} {g : am_J} {τ : am_T} {Q : am_Q} {x0 x1 x2 x3 : Value} {a : Nat} {j : Int32} (ht : τ.1 a = 15) (hj : am_inb j (τ.2.1 a) = true) : AW d 279 1632 [x0, x1, x2, x3] (.int j :: .ref a :: st) σ ρ g τ Q = AW d 279 1633 [x0, x1, x2, x3] (.int (σ a j.toNatClampNeg) :: st) σ ρ g τ Q := aw_ial m279 d279_1632 rfl ht hj
theorem d279_1633 : decode cL_law 1633 = .ok (.aload_n 0, 1) := by decide +kernel
theorem s279_1633 {d : Nat} {st : List Value} {σ : am_I} {ρ : am_R} {g : am_J} {τ : am_T} {Q : am_Q} {x1 x2 x3 : Value} {v : Nat} : AW d 279 1633 [.ref v, x1, x2, x3] (st) σ ρ g τ Q = AW d 279 1634 [.ref v, x1, x2, x3] (.ref v :: st) σ ρ g τ Q := aw_lc m279 d279_1633 rfl rfl rfl
theorem d279_1634 : decode cL_law 1634 = .ok (.iload_n 3, 1) := by decide +kernel
theorem s279_1634 {d : Nat} {st : List Value} {σ : am_I} {ρ : am_R} {g : am_J} {τ : am_T} {Q : am_Q} {x0 x1 x2 : Value} {v : Int32} : AW d 279 1634 [x0, x1, x2, .int v] (st) σ ρ g τ Q = AW d 279 1635 [x0, x1, x2, .int v] (.int v :: st) σ ρ g τ Q := aw_lc m279 d279_1634 rfl rfl rfl
theorem d279_1635 : decode cL_law 1635 = .ok (.iconst 3, 1) := by decide +kernel
theorem s279_1635 {d : Nat} {st : List Value} {σ : am_I} {ρ : am_R} {g : am_J} {τ : am_T} {Q : am_Q} {x0 x1 x2 x3 : Value} : AW d 279 1635 [x0, x1, x2, x3] (st) σ ρ g τ Q = AW d 279 1636 [x0, x1, x2, x3] (.int 3 :: st) σ ρ g τ Q := aw_lc m279 d279_1635 rfl rfl rfl
theorem d279_1636 : decode cL_law 1636 = .ok (.iadd, 1) := by decide +kernel
theorem s279_1636 {d : Nat} {st : List Value} {σ : am_I} {ρ : am_R} {g : am_J} {τ : am_T} {Q : am_Q} {x0 x1 x2 x3 : Value} {v w : Int32} : AW d 279 1636 [x0, x1, x2, x3] (.int w :: .int v :: st) σ ρ g τ Q = AW d 279 1637 [x0, x1, x2, x3] (.int (v + w) :: st) σ ρ g τ Q := aw_lc m279 d279_1636 rfl rfl rfl
theorem d279_1637 : decode cL_law 1637 = .ok (.iaload, 1) := by decide +kernel
theorem s279_1637 {d : Nat} {st : List Value} {σ : am_I} {ρ : am_R} {g : am_J} {τ : am_T} {Q : am_Q} {x0 x1 x2 x3 : Value} {a : Nat} {j : Int32} (ht : τ.1 a = 15) (hj : am_inb j (τ.2.1 a) = true) : AW d 279 1637 [x0, x1, x2, x3] (.int j :: .ref a :: st) σ ρ g τ Q = AW d 279 1638 [x0, x1, x2, x3] (.int (σ a j.toNatClampNeg) :: st) σ ρ g τ Q := aw_ial m279 d279_1637 rfl ht hj
theorem d279_1638 : decode cL_law 1638 = .ok (.invokevirtual 173, 3) := by decide +kernel
theorem s279_1638 {d : Nat} {st : List Value} {σ : am_I} {ρ : am_R} {g : am_J} {τ : am_T} {Q : am_Q} {x0 x1 x2 x3 : Value} {p0 : Nat} {p1 : Int32} {p2 : Int32} {p3 : Int32} (ht : τ.1 p0 = 11) (hs : st.length ≤ 4) : AW (d + 1) 279 1638 [x0, x1, x2, x3] (.int p3 :: .int p2 :: .int p1 :: .ref p0 :: st) σ ρ g τ Q = AW d 156 0 [.ref p0, .int p1, .int p2, .int p3] [] σ ρ g τ (fun r9 σ ρ g τ => AW (d + 1) 279 1641 [x0, x1, x2, x3] (r9.toList ++ st) σ ρ g τ Q) := aw_cv m279 d279_1638 rfl m156 rfl rfl (by decide) en156 ok156 rfl ht hs
theorem d279_1641 : decode cL_law 1641 = .ok (.aload_n 2, 1) := by decide +kernel
theorem s279_1641 {d : Nat} {st : List Value} {σ : am_I} {ρ : am_R} {g : am_J} {τ : am_T} {Q : am_Q} {x0 x1 x3 : Value} {v : Nat} : AW d 279 1641 [x0, x1, .ref v, x3] (st) σ ρ g τ Q = AW d 279 1642 [x0, x1, .ref v, x3] (.ref v :: st) σ ρ g τ Q := aw_lc m279 d279_1641 rfl rfl rfl
theorem d279_1642 : decode cL_law 1642 = .ok (.aload_n 0, 1) := by decide +kernel
theorem s279_1642 {d : Nat} {st : List Value} {σ : am_I} {ρ : am_R} {g : am_J} {τ : am_T} {Q : am_Q} {x1 x2 x3 : Value} {v : Nat} : AW d 279 1642 [.ref v, x1, x2, x3] (st) σ ρ g τ Q = AW d 279 1643 [.ref v, x1, x2, x3] (.ref v :: st) σ ρ g τ Q := aw_lc m279 d279_1642 rfl rfl rfl
theorem d279_1643 : decode cL_law 1643 = .ok (.iload_n 3, 1) := by decide +kernel
theorem s279_1643 {d : Nat} {st : List Value} {σ : am_I} {ρ : am_R} {g : am_J} {τ : am_T} {Q : am_Q} {x0 x1 x2 : Value} {v : Int32} : AW d 279 1643 [x0, x1, x2, .int v] (st) σ ρ g τ Q = AW d 279 1644 [x0, x1, x2, .int v] (.int v :: st) σ ρ g τ Q := aw_lc m279 d279_1643 rfl rfl rfl
theorem d279_1644 : decode cL_law 1644 = .ok (.iconst 1, 1) := by decide +kernel
theorem s279_1644 {d : Nat} {st : List Value} {σ : am_I} {ρ : am_R} {g : am_J} {τ : am_T} {Q : am_Q} {x0 x1 x2 x3 : Value} : AW d 279 1644 [x0, x1, x2, x3] (st) σ ρ g τ Q = AW d 279 1645 [x0, x1, x2, x3] (.int 1 :: st) σ ρ g τ Q := aw_lc m279 d279_1644 rfl rfl rfl
theorem d279_1645 : decode cL_law 1645 = .ok (.iadd, 1) := by decide +kernel
theorem s279_1645 {d : Nat} {st : List Value} {σ : am_I} {ρ : am_R} {g : am_J} {τ : am_T} {Q : am_Q} {x0 x1 x2 x3 : Value} {v w : Int32} : AW d 279 1645 [x0, x1, x2, x3] (.int w :: .int v :: st) σ ρ g τ Q = AW d 279 1646 [x0, x1, x2, x3] (.int (v + w) :: st) σ ρ g τ Q := aw_lc m279 d279_1645 rfl rfl rfl
theorem d279_1646 : decode cL_law 1646 = .ok (.iaload, 1) := by decide +kernel
theorem s279_1646 {d : Nat} {st : List Value} {σ : am_I} {ρ : am_R} {g : am_J} {τ : am_T} {Q : am_Q} {x0 x1 x2 x3 : Value} {a : Nat} {j : Int32} (ht : τ.1 a = 15) (hj : am_inb j (τ.2.1 a) = true) : AW d 279 1646 [x0, x1, x2, x3] (.int j :: .ref a :: st) σ ρ g τ Q = AW d 279 1647 [x0, x1, x2, x3] (.int (σ a j.toNatClampNeg) :: st) σ ρ g τ Q := aw_ial m279 d279_1646 rfl ht hj
theorem d279_1647 : decode cL_law 1647 = .ok (.aload_n 0, 1) := by decide +kernel
theorem s279_1647 {d : Nat} {st : List Value} {σ : am_I} {ρ : am_R} {g : am_J} {τ : am_T} {Q : am_Q} {x1 x2 x3 : Value} {v : Nat} : AW d 279 1647 [.ref v, x1, x2, x3] (st) σ ρ g τ Q = AW d 279 1648 [.ref v, x1, x2, x3] (.ref v :: st) σ ρ g τ Q := aw_lc m279 d279_1647 rfl rfl rfl
theorem d279_1648 : decode cL_law 1648 = .ok (.iload_n 3, 1) := by decide +kernel
theorem s279_1648 {d : Nat} {st : List Value} {σ : am_I} {ρ : am_R} {g : am_J} {τ : am_T} {Q : am_Q} {x0 x1 x2 : Value} {v : Int32} : AW d 279 1648 [x0, x1, x2, .int v] (st) σ ρ g τ Q = AW d 279 1649 [x0, x1, x2, .int v] (.int v :: st) σ ρ g τ Q := aw_lc m279 d279_1648 rfl rfl rfl
theorem d279_1649 : decode cL_law 1649 = .ok (.iconst 2, 1) := by decide +kernel
theorem s279_1649 {d : Nat} {st : List Value} {σ : am_I} {ρ : am_R} {g : am_J} {τ : am_T} {Q : am_Q} {x0 x1 x2 x3 : Value} : AW d 279 1649 [x0, x1, x2, x3] (st) σ ρ g τ Q = AW d 279 1650 [x0, x1, x2, x3] (.int 2 :: st) σ ρ g τ Q := aw_lc m279 d279_1649 rfl rfl rfl
theorem d279_1650 : decode cL_law 1650 = .ok (.iadd, 1) := by decide +kernel
theorem s279_1650 {d : Nat} {st : List Value} {σ : am_I} {ρ : am_R} {g : am_J} {τ : am_T} {Q : am_Q} {x0 x1 x2 x3 : Value} {v w : Int32} : AW d 279 1650 [x0, x1, x2, x3] (.int w :: .int v :: st) σ ρ g τ Q = AW d 279 1651 [x0, x1, x2, x3] (.int (v + w) :: st) σ ρ g τ Q := aw_lc m279 d279_1650 rfl rfl rfl
theorem d279_1651 : decode cL_law 1651 = .ok (.iaload, 1) := by decide +kernel
theorem s279_1651 {d : Nat} {st : List Value} {σ : am_I} {ρ : am_R} {g : am_J} {τ : am_T} {Q : am_Q} {x0 x1 x2 x3 : Value} {a : Nat} {j : Int32} (ht : τ.1 a = 15) (hj : am_inb j (τ.2.1 a) = true) : AW d 279 1651 [x0, x1, x2, x3] (.int j :: .ref a :: st) σ ρ g τ Q = AW d 279 1652 [x0, x1, x2, x3] (.int (σ a j.toNatClampNeg) :: st) σ ρ g τ Q := aw_ial m279 d279_1651 rfl ht hj
theorem d279_1652 : decode cL_law 1652 = .ok (.aload_n 0, 1) := by decide +kernel
theorem s279_1652 {d : Nat} {st : List Value} {σ : am_I} {ρ : am_R} {g : am_J} {τ : am_T} {Q : am_Q} {x1 x2 x3 : Value} {v : Nat} : AW d 279 1652 [.ref v, x1, x2, x3] (st) σ ρ g τ Q = AW d 279 1653 [.ref v, x1, x2, x3] (.ref v :: st) σ ρ g τ Q := aw_lc m279 d279_1652 rfl rfl rfl
theorem d279_1653 : decode cL_law 1653 = .ok (.iload_n 3, 1) := by decide +kernel
theorem s279_1653 {d : Nat} {st : List Value} {σ : am_I} {ρ : am_R} {g : am_J} {τ : am_T} {Q : am_Q} {x0 x1 x2 : Value} {v : Int32} : AW d 279 1653 [x0, x1, x2, .int v] (st) σ ρ g τ Q = AW d 279 1654 [x0, x1, x2, .int v] (.int v :: st) σ ρ g τ Q := aw_lc m279 d279_1653 rfl rfl rfl
theorem d279_1654 : decode cL_law 1654 = .ok (.iconst 3, 1) := by decide +kernel
theorem s279_1654 {d : Nat} {st : List Value} {σ : am_I} {ρ : am_R} {g : am_J} {τ : am_T} {Q : am_Q} {x0 x1 x2 x3 : Value} : AW d 279 1654 [x0, x1, x2, x3] (st) σ ρ g τ Q = AW d 279 1655 [x0, x1, x2, x3] (.int 3 :: st) σ ρ g τ Q := aw_lc m279 d279_1654 rfl rfl rfl
theorem d279_1655 : decode cL_law 1655 = .ok (.iadd, 1) := by decide +kernel
theorem s279_1655 {d : Nat} {st : List Value} {σ : am_I} {ρ : am_R} {g : am_J} {τ : am_T} {Q : am_Q} {x0 x1 x2 x3 : Value} {v w : Int32} : AW d 279 1655 [x0, x1, x2, x3] (.int w :: .int v :: st) σ ρ g τ Q = AW d 279 1656 [x0, x1, x2, x3] (.int (v + w) :: st) σ ρ g τ Q := aw_lc m279 d279_1655 rfl rfl rfl
theorem d279_1656 : decode cL_law 1656 = .ok (.iaload, 1) := by decide +kernel
theorem s279_1656 {d : Nat} {st : List Value} {σ : am_I} {ρ : am_R} {g : am_J} {τ : am_T} {Q : am_Q} {x0 x1 x2 x3 : Value} {a : Nat} {j : Int32} (ht : τ.1 a = 15) (hj : am_inb j (τ.2.1 a) = true) : AW d 279 1656 [x0, x1, x2, x3] (.int j :: .ref a :: st) σ ρ g τ Q = AW d 279 1657 [x0, x1, x2, x3] (.int (σ a j.toNatClampNeg) :: st) σ ρ g τ Q := aw_ial m279 d279_1656 rfl ht hj
theorem d279_1657 : decode cL_law 1657 = .ok (.invokevirtual 176, 3) := by decide +kernel
theorem s279_1657 {d : Nat} {st : List Value} {σ : am_I} {ρ : am_R} {g : am_J} {τ : am_T} {Q : am_Q} {x0 x1 x2 x3 : Value} {p0 : Nat} {p1 : Int32} {p2 : Int32} {p3 : Int32} (ht : τ.1 p0 = 12) (hs : st.length ≤ 4) : AW (d + 1) 279 1657 [x0, x1, x2, x3] (.int p3 :: .int p2 :: .int p1 :: .ref p0 :: st) σ ρ g τ Q = AW d 253 0 [.ref p0, .int p1, .int p2, .int p3] [] σ ρ g τ (fun r9 σ ρ g τ => AW (d + 1) 279 1660 [x0, x1, x2, x3] (r9.toList ++ st) σ ρ g τ Q) := aw_cv m279 d279_1657 rfl m253 rfl rfl (by decide) en253 ok253 rfl ht hs
theorem d279_1660 : decode cL_law 1660 = .ok (.if_icmp .eq 153, 3) := by decide +kernel
theorem s279_1660 {d : Nat} {st : List Value} {σ : am_I} {ρ : am_R} {g : am_J} {τ : am_T} {Q : am_Q} {x0 x1 x2 x3 : Value} {v w : Int32} : AW d 279 1660 [x0, x1, x2, x3] (.int w :: .int v :: st) σ ρ g τ Q = if v = w then AW d 279 1813 [x0, x1, x2, x3] (st) σ ρ g τ Q else AW d 279 1663 [x0, x1, x2, x3] (st) σ ρ g τ Q := aw_br m279 d279_1660 rfl rfl rfl
theorem d279_1663 : decode cL_law 1663 = .ok (.iconst 0, 1) := by decide +kernel
theorem s279_1663 {d : Nat} {st : List Value} {σ : am_I} {ρ : am_R} {g : am_J} {τ : am_T} {Q : am_Q} {x0 x1 x2 x3 : Value} : AW d 279 1663 [x0, x1, x2, x3] (st) σ ρ g τ Q = AW d 279 1664 [x0, x1, x2, x3] (.int 0 :: st) σ ρ g τ Q := aw_lc m279 d279_1663 rfl rfl rfl
theorem d279_1664 : decode cL_law 1664 = .ok (.ireturn, 1) := by decide +kernel
theorem s279_1664 {d : Nat} {σ : am_I} {ρ : am_R} {g : am_J} {τ : am_T} {Q : am_Q} {x0 x1 x2 x3 : Value} {v : Int32} (hv : am_b01 v = true) : AW d 279 1664 [x0, x1, x2, x3] ([.int v]) σ ρ g τ Q = Q (some (.int v)) σ ρ g τ := aw_rz m279 d279_1664 rfl hv
theorem d279_1665 : decode cL_law 1665 = .ok (.aload_n 1, 1) := by decide +kernel
theorem s279_1665 {d : Nat} {st : List Value} {σ : am_I} {ρ : am_R} {g : am_J} {τ : am_T} {Q : am_Q} {x0 x2 x3 : Value} {v : Nat} : AW d 279 1665 [x0, .ref v, x2, x3] (st) σ ρ g τ Q = AW d 279 1666 [x0, .ref v, x2, x3] (.ref v :: st) σ ρ g τ Q := aw_lc m279 d279_1665 rfl rfl rfl
theorem d279_1666 : decode cL_law 1666 = .ok (.aload_n 0, 1) := by decide +kernel
theorem s279_1666 {d : Nat} {st : List Value} {σ : am_I} {ρ : am_R} {g : am_J} {τ : am_T} {Q : am_Q} {x1 x2 x3 : Value} {v : Nat} : AW d 279 1666 [.ref v, x1, x2, x3] (st) σ ρ g τ Q = AW d 279 1667 [.ref v, x1, x2, x3] (.ref v :: st) σ ρ g τ Q := aw_lc m279 d279_1666 rfl rfl rfl
theorem d279_1667 : decode cL_law 1667 = .ok (.iload_n 3, 1) := by decide +kernel
theorem s279_1667 {d : Nat} {st : List Value} {σ : am_I} {ρ : am_R} {g : am_J} {τ : am_T} {Q : am_Q} {x0 x1 x2 : Value} {v : Int32} : AW d 279 1667 [x0, x1, x2, .int v] (st) σ ρ g τ Q = AW d 279 1668 [x0, x1, x2, .int v] (.int v :: st) σ ρ g τ Q := aw_lc m279 d279_1667 rfl rfl rfl
theorem d279_1668 : decode cL_law 1668 = .ok (.iconst 1, 1) := by decide +kernel
theorem s279_1668 {d : Nat} {st : List Value} {σ : am_I} {ρ : am_R} {g : am_J} {τ : am_T} {Q : am_Q} {x0 x1 x2 x3 : Value} : AW d 279 1668 [x0, x1, x2, x3] (st) σ ρ g τ Q = AW d 279 1669 [x0, x1, x2, x3] (.int 1 :: st) σ ρ g τ Q := aw_lc m279 d279_1668 rfl rfl rfl
theorem d279_1669 : decode cL_law 1669 = .ok (.iadd, 1) := by decide +kernel
theorem s279_1669 {d : Nat} {st : List Value} {σ : am_I} {ρ : am_R} {g : am_J} {τ : am_T} {Q : am_Q} {x0 x1 x2 x3 : Value} {v w : Int32} : AW d 279 1669 [x0, x1, x2, x3] (.int w :: .int v :: st) σ ρ g τ Q = AW d 279 1670 [x0, x1, x2, x3] (.int (v + w) :: st) σ ρ g τ Q := aw_lc m279 d279_1669 rfl rfl rfl
theorem d279_1670 : decode cL_law 1670 = .ok (.iaload, 1) := by decide +kernel
theorem s279_1670 {d : Nat} {st : List Value} {σ : am_I} {ρ : am_R} {g : am_J} {τ : am_T} {Q : am_Q} {x0 x1 x2 x3 : Value} {a : Nat} {j : Int32} (ht : τ.1 a = 15) (hj : am_inb j (τ.2.1 a) = true) : AW d 279 1670 [x0, x1, x2, x3] (.int j :: .ref a :: st) σ ρ g τ Q = AW d 279 1671 [x0, x1, x2, x3] (.int (σ a j.toNatClampNeg) :: st) σ ρ g τ Q := aw_ial m279 d279_1670 rfl ht hj
theorem d279_1671 : decode cL_law 1671 = .ok (.aload_n 0, 1) := by decide +kernel
theorem s279_1671 {d : Nat} {st : List Value} {σ : am_I} {ρ : am_R} {g : am_J} {τ : am_T} {Q : am_Q} {x1 x2 x3 : Value} {v : Nat} : AW d 279 1671 [.ref v, x1, x2, x3] (st) σ ρ g τ Q = AW d 279 1672 [.ref v, x1, x2, x3] (.ref v :: st) σ ρ g τ Q := aw_lc m279 d279_1671 rfl rfl rfl
theorem d279_1672 : decode cL_law 1672 = .ok (.iload_n 3, 1) := by decide +kernel
theorem s279_1672 {d : Nat} {st : List Value} {σ : am_I} {ρ : am_R} {g : am_J} {τ : am_T} {Q : am_Q} {x0 x1 x2 : Value} {v : Int32} : AW d 279 1672 [x0, x1, x2, .int v] (st) σ ρ g τ Q = AW d 279 1673 [x0, x1, x2, .int v] (.int v :: st) σ ρ g τ Q := aw_lc m279 d279_1672 rfl rfl rfl
theorem d279_1673 : decode cL_law 1673 = .ok (.iconst 2, 1) := by decide +kernel
theorem s279_1673 {d : Nat} {st : List Value} {σ : am_I} {ρ : am_R} {g : am_J} {τ : am_T} {Q : am_Q} {x0 x1 x2 x3 : Value} : AW d 279 1673 [x0, x1, x2, x3] (st) σ ρ g τ Q = AW d 279 1674 [x0, x1, x2, x3] (.int 2 :: st) σ ρ g τ Q := aw_lc m279 d279_1673 rfl rfl rfl
theorem d279_1674 : decode cL_law 1674 = .ok (.iadd, 1) := by decide +kernel
theorem s279_1674 {d : Nat} {st : List Value} {σ : am_I} {ρ : am_R} {g : am_J} {τ : am_T} {Q : am_Q} {x0 x1 x2 x3 : Value} {v w : Int32} : AW d 279 1674 [x0, x1, x2, x3] (.int w :: .int v :: st) σ ρ g τ Q = AW d 279 1675 [x0, x1, x2, x3] (.int (v + w) :: st) σ ρ g τ Q := aw_lc m279 d279_1674 rfl rfl rfl
theorem d279_1675 : decode cL_law 1675 = .ok (.iaload, 1) := by decide +kernel
theorem s279_1675 {d : Nat} {st : List Value} {σ : am_I} {ρ : am_R} {g : am_J} {τ : am_T} {Q : am_Q} {x0 x1 x2 x3 : Value} {a : Nat} {j : Int32} (ht : τ.1 a = 15) (hj : am_inb j (τ.2.1 a) = true) : AW d 279 1675 [x0, x1, x2, x3] (.int j :: .ref a :: st) σ ρ g τ Q = AW d 279 1676 [x0, x1, x2, x3] (.int (σ a j.toNatClampNeg) :: st) σ ρ g τ Q := aw_ial m279 d279_1675 rfl ht hj
theorem d279_1676 : decode cL_law 1676 = .ok (.invokevirtual 177, 3) := by decide +kernel
theorem s279_1676 {d : Nat} {st : List Value} {σ : am_I} {ρ : am_R} {g : am_J} {τ : am_T} {Q : am_Q} {x0 x1 x2 x3 : Value} {p0 : Nat} {p1 : Int32} {p2 : Int32} (ht : τ.1 p0 = 11) (hs : st.length ≤ 4) : AW (d + 1) 279 1676 [x0, x1, x2, x3] (.int p2 :: .int p1 :: .ref p0 :: st) σ ρ g τ Q = AW d 157 0 [.ref p0, .int p1, .int p2, am_jk, am_jk] [] σ ρ g τ (fun r9 σ ρ g τ => AW (d + 1) 279 1679 [x0, x1, x2, x3] (r9.toList ++ st) σ ρ g τ Q) := aw_cv m279 d279_1676 rfl m157 rfl rfl (by decide) en157 ok157 rfl ht hs
theorem d279_1679 : decode cL_law 1679 = .ok (.aload_n 2, 1) := by decide +kernel
theorem s279_1679 {d : Nat} {st : List Value} {σ : am_I} {ρ : am_R} {g : am_J} {τ : am_T} {Q : am_Q} {x0 x1 x3 : Value} {v : Nat} : AW d 279 1679 [x0, x1, .ref v, x3] (st) σ ρ g τ Q = AW d 279 1680 [x0, x1, .ref v, x3] (.ref v :: st) σ ρ g τ Q := aw_lc m279 d279_1679 rfl rfl rfl
theorem d279_1680 : decode cL_law 1680 = .ok (.aload_n 0, 1) := by decide +kernel
theorem s279_1680 {d : Nat} {st : List Value} {σ : am_I} {ρ : am_R} {g : am_J} {τ : am_T} {Q : am_Q} {x1 x2 x3 : Value} {v : Nat} : AW d 279 1680 [.ref v, x1, x2, x3] (st) σ ρ g τ Q = AW d 279 1681 [.ref v, x1, x2, x3] (.ref v :: st) σ ρ g τ Q := aw_lc m279 d279_1680 rfl rfl rfl
theorem d279_1681 : decode cL_law 1681 = .ok (.iload_n 3, 1) := by decide +kernel
theorem s279_1681 {d : Nat} {st : List Value} {σ : am_I} {ρ : am_R} {g : am_J} {τ : am_T} {Q : am_Q} {x0 x1 x2 : Value} {v : Int32} : AW d 279 1681 [x0, x1, x2, .int v] (st) σ ρ g τ Q = AW d 279 1682 [x0, x1, x2, .int v] (.int v :: st) σ ρ g τ Q := aw_lc m279 d279_1681 rfl rfl rfl
theorem d279_1682 : decode cL_law 1682 = .ok (.iconst 1, 1) := by decide +kernel
theorem s279_1682 {d : Nat} {st : List Value} {σ : am_I} {ρ : am_R} {g : am_J} {τ : am_T} {Q : am_Q} {x0 x1 x2 x3 : Value} : AW d 279 1682 [x0, x1, x2, x3] (st) σ ρ g τ Q = AW d 279 1683 [x0, x1, x2, x3] (.int 1 :: st) σ ρ g τ Q := aw_lc m279 d279_1682 rfl rfl rfl
theorem d279_1683 : decode cL_law 1683 = .ok (.iadd, 1) := by decide +kernel
theorem s279_1683 {d : Nat} {st : List Value} {σ : am_I} {ρ : am_R} {g : am_J} {τ : am_T} {Q : am_Q} {x0 x1 x2 x3 : Value} {v w : Int32} : AW d 279 1683 [x0, x1, x2, x3] (.int w :: .int v :: st) σ ρ g τ Q = AW d 279 1684 [x0, x1, x2, x3] (.int (v + w) :: st) σ ρ g τ Q := aw_lc m279 d279_1683 rfl rfl rfl
theorem d279_1684 : decode cL_law 1684 = .ok (.iaload, 1) := by decide +kernel
theorem s279_1684 {d : Nat} {st : List Value} {σ : am_I} {ρ : am_R} {g : am_J} {τ : am_T} {Q : am_Q} {x0 x1 x2 x3 : Value} {a : Nat} {j : Int32} (ht : τ.1 a = 15) (hj : am_inb j (τ.2.1 a) = true) : AW d 279 1684 [x0, x1, x2, x3] (.int j :: .ref a :: st) σ ρ g τ Q = AW d 279 1685 [x0, x1, x2, x3] (.int (σ a j.toNatClampNeg) :: st) σ ρ g τ Q := aw_ial m279 d279_1684 rfl ht hj
theorem d279_1685 : decode cL_law 1685 = .ok (.aload_n 0, 1) := by decide +kernel
theorem s279_1685 {d : Nat} {st : List Value} {σ : am_I} {ρ : am_R} {g : am_J} {τ : am_T} {Q : am_Q} {x1 x2 x3 : Value} {v : Nat} : AW d 279 1685 [.ref v, x1, x2, x3] (st) σ ρ g τ Q = AW d 279 1686 [.ref v, x1, x2, x3] (.ref v :: st) σ ρ g τ Q := aw_lc m279 d279_1685 rfl rfl rfl
theorem d279_1686 : decode cL_law 1686 = .ok (.iload_n 3, 1) := by decide +kernel
theorem s279_1686 {d : Nat} {st : List Value} {σ : am_I} {ρ : am_R} {g : am_J} {τ : am_T} {Q : am_Q} {x0 x1 x2 : Value} {v : Int32} : AW d 279 1686 [x0, x1, x2, .int v] (st) σ ρ g τ Q = AW d 279 1687 [x0, x1, x2, .int v] (.int v :: st) σ ρ g τ Q := aw_lc m279 d279_1686 rfl rfl rfl
theorem d279_1687 : decode cL_law 1687 = .ok (.iconst 2, 1) := by decide +kernel
theorem s279_1687 {d : Nat} {st : List Value} {σ : am_I} {ρ : am_R} {g : am_J} {τ : am_T} {Q : am_Q} {x0 x1 x2 x3 : Value} : AW d 279 1687 [x0, x1, x2, x3] (st) σ ρ g τ Q = AW d 279 1688 [x0, x1, x2, x3] (.int 2 :: st) σ ρ g τ Q := aw_lc m279 d279_1687 rfl rfl rfl
theorem d279_1688 : decode cL_law 1688 = .ok (.iadd, 1) := by decide +kernel
theorem s279_1688 {d : Nat} {st : List Value} {σ : am_I} {ρ : am_R} {g : am_J} {τ : am_T} {Q : am_Q} {x0 x1 x2 x3 : Value} {v w : Int32} : AW d 279 1688 [x0, x1, x2, x3] (.int w :: .int v :: st) σ ρ g τ Q = AW d 279 1689 [x0, x1, x2, x3] (.int (v + w) :: st) σ ρ g τ Q := aw_lc m279 d279_1688 rfl rfl rfl
theorem d279_1689 : decode cL_law 1689 = .ok (.iaload, 1) := by decide +kernel
theorem s279_1689 {d : Nat} {st : List Value} {σ : am_I} {ρ : am_R} {g : am_J} {τ : am_T} {Q : am_Q} {x0 x1 x2 x3 : Value} {a : Nat} {j : Int32} (ht : τ.1 a = 15) (hj : am_inb j (τ.2.1 a) = true) : AW d 279 1689 [x0, x1, x2, x3] (.int j :: .ref a :: st) σ ρ g τ Q = AW d 279 1690 [x0, x1, x2, x3] (.int (σ a j.toNatClampNeg) :: st) σ ρ g τ Q := aw_ial m279 d279_1689 rfl ht hj
theorem d279_1690 : decode cL_law 1690 = .ok (.invokevirtual 180, 3) := by decide +kernel
theorem s279_1690 {d : Nat} {st : List Value} {σ : am_I} {ρ : am_R} {g : am_J} {τ : am_T} {Q : am_Q} {x0 x1 x2 x3 : Value} {p0 : Nat} {p1 : Int32} {p2 : Int32} (ht : τ.1 p0 = 12) (hs : st.length ≤ 4) : AW (d + 1) 279 1690 [x0, x1, x2, x3] (.int p2 :: .int p1 :: .ref p0 :: st) σ ρ g τ Q = AW d 256 0 [.ref p0, .int p1, .int p2, am_jk] [] σ ρ g τ (fun r9 σ ρ g τ => AW (d + 1) 279 1693 [x0, x1, x2, x3] (r9.toList ++ st) σ ρ g τ Q) := aw_cv m279 d279_1690 rfl m256 rfl rfl (by decide) en256 ok256 rfl ht hs
theorem d279_1693 : decode cL_law 1693 = .ok (.if_icmp .eq 120, 3) := by decide +kernel
theorem s279_1693 {d : Nat} {st : List Value} {σ : am_I} {ρ : am_R} {g : am_J} {τ : am_T} {Q : am_Q} {x0 x1 x2 x3 : Value} {v w : Int32} : AW d 279 1693 [x0, x1, x2, x3] (.int w :: .int v :: st) σ ρ g τ Q = if v = w then AW d 279 1813 [x0, x1, x2, x3] (st) σ ρ g τ Q else AW d 279 1696 [x0, x1, x2, x3] (st) σ ρ g τ Q := aw_br m279 d279_1693 rfl rfl rfl
theorem d279_1696 : decode cL_law 1696 = .ok (.iconst 0, 1) := by decide +kernel
theorem s279_1696 {d : Nat} {st : List Value} {σ : am_I} {ρ : am_R} {g : am_J} {τ : am_T} {Q : am_Q} {x0 x1 x2 x3 : Value} : AW d 279 1696 [x0, x1, x2, x3] (st) σ ρ g τ Q = AW d 279 1697 [x0, x1, x2, x3] (.int 0 :: st) σ ρ g τ Q := aw_lc m279 d279_1696 rfl rfl rfl
theorem d279_1697 : decode cL_law 1697 = .ok (.ireturn, 1) := by decide +kernel
theorem s279_1697 {d : Nat} {σ : am_I} {ρ : am_R} {g : am_J} {τ : am_T} {Q : am_Q} {x0 x1 x2 x3 : Value} {v : Int32} (hv : am_b01 v = true) : AW d 279 1697 [x0, x1, x2, x3] ([.int v]) σ ρ g τ Q = Q (some (.int v)) σ ρ g τ := aw_rz m279 d279_1697 rfl hv
theorem d279_1698 : decode cL_law 1698 = .ok (.aload_n 1, 1) := by decide +kernel
theorem s279_1698 {d : Nat} {st : List Value} {σ : am_I} {ρ : am_R} {g : am_J} {τ : am_T} {Q : am_Q} {x0 x2 x3 : Value} {v : Nat} : AW d 279 1698 [x0, .ref v, x2, x3] (st) σ ρ g τ Q = AW d 279 1699 [x0, .ref v, x2, x3] (.ref v :: st) σ ρ g τ Q := aw_lc m279 d279_1698 rfl rfl rfl
theorem d279_1699 : decode cL_law 1699 = .ok (.aload_n 0, 1) := by decide +kernel
theorem s279_1699 {d : Nat} {st : List Value} {σ : am_I} {ρ : am_R} {g : am_J} {τ : am_T} {Q : am_Q} {x1 x2 x3 : Value} {v : Nat} : AW d 279 1699 [.ref v, x1, x2, x3] (st) σ ρ g τ Q = AW d 279 1700 [.ref v, x1, x2, x3] (.ref v :: st) σ ρ g τ Q := aw_lc m279 d279_1699 rfl rfl rfl
theorem d279_1700 : decode cL_law 1700 = .ok (.iload_n 3, 1) := by decide +kernel
theorem s279_1700 {d : Nat} {st : List Value} {σ : am_I} {ρ : am_R} {g : am_J} {τ : am_T} {Q : am_Q} {x0 x1 x2 : Value} {v : Int32} : AW d 279 1700 [x0, x1, x2, .int v] (st) σ ρ g τ Q = AW d 279 1701 [x0, x1, x2, .int v] (.int v :: st) σ ρ g τ Q := aw_lc m279 d279_1700 rfl rfl rfl
theorem d279_1701 : decode cL_law 1701 = .ok (.iconst 1, 1) := by decide +kernel
theorem s279_1701 {d : Nat} {st : List Value} {σ : am_I} {ρ : am_R} {g : am_J} {τ : am_T} {Q : am_Q} {x0 x1 x2 x3 : Value} : AW d 279 1701 [x0, x1, x2, x3] (st) σ ρ g τ Q = AW d 279 1702 [x0, x1, x2, x3] (.int 1 :: st) σ ρ g τ Q := aw_lc m279 d279_1701 rfl rfl rfl
theorem d279_1702 : decode cL_law 1702 = .ok (.iadd, 1) := by decide +kernel
theorem s279_1702 {d : Nat} {st : List Value} {σ : am_I} {ρ : am_R} {g : am_J} {τ : am_T} {Q : am_Q} {x0 x1 x2 x3 : Value} {v w : Int32} : AW d 279 1702 [x0, x1, x2, x3] (.int w :: .int v :: st) σ ρ g τ Q = AW d 279 1703 [x0, x1, x2, x3] (.int (v + w) :: st) σ ρ g τ Q := aw_lc m279 d279_1702 rfl rfl rfl
theorem d279_1703 : decode cL_law 1703 = .ok (.iaload, 1) := by decide +kernel
theorem s279_1703 {d : Nat} {st : List Value} {σ : am_I} {ρ : am_R} {g : am_J} {τ : am_T} {Q : am_Q} {x0 x1 x2 x3 : Value} {a : Nat} {j : Int32} (ht : τ.1 a = 15) (hj : am_inb j (τ.2.1 a) = true) : AW d 279 1703 [x0, x1, x2, x3] (.int j :: .ref a :: st) σ ρ g τ Q = AW d 279 1704 [x0, x1, x2, x3] (.int (σ a j.toNatClampNeg) :: st) σ ρ g τ Q := aw_ial m279 d279_1703 rfl ht hj
theorem d279_1704 : decode cL_law 1704 = .ok (.aload_n 0, 1) := by decide +kernel
theorem s279_1704 {d : Nat} {st : List Value} {σ : am_I} {ρ : am_R} {g : am_J} {τ : am_T} {Q : am_Q} {x1 x2 x3 : Value} {v : Nat} : AW d 279 1704 [.ref v, x1, x2, x3] (st) σ ρ g τ Q = AW d 279 1705 [.ref v, x1, x2, x3] (.ref v :: st) σ ρ g τ Q := aw_lc m279 d279_1704 rfl rfl rfl
theorem d279_1705 : decode cL_law 1705 = .ok (.iload_n 3, 1) := by decide +kernel
theorem s279_1705 {d : Nat} {st : List Value} {σ : am_I} {ρ : am_R} {g : am_J} {τ : am_T} {Q : am_Q} {x0 x1 x2 : Value} {v : Int32} : AW d 279 1705 [x0, x1, x2, .int v] (st) σ ρ g τ Q = AW d 279 1706 [x0, x1, x2, .int v] (.int v :: st) σ ρ g τ Q := aw_lc m279 d279_1705 rfl rfl rfl
theorem d279_1706 : decode cL_law 1706 = .ok (.iconst 2, 1) := by decide +kernel
theorem s279_1706 {d : Nat} {st : List Value} {σ : am_I} {ρ : am_R} {g : am_J} {τ : am_T} {Q : am_Q} {x0 x1 x2 x3 : Value} : AW d 279 1706 [x0, x1, x2, x3] (st) σ ρ g τ Q = AW d 279 1707 [x0, x1, x2, x3] (.int 2 :: st) σ ρ g τ Q := aw_lc m279 d279_1706 rfl rfl rfl
theorem d279_1707 : decode cL_law 1707 = .ok (.iadd, 1) := by decide +kernel
theorem s279_1707 {d : Nat} {st : List Value} {σ : am_I} {ρ : am_R} {g : am_J} {τ : am_T} {Q : am_Q} {x0 x1 x2 x3 : Value} {v w : Int32} : AW d 279 1707 [x0, x1, x2, x3] (.int w :: .int v :: st) σ ρ g τ Q = AW d 279 1708 [x0, x1, x2, x3] (.int (v + w) :: st) σ ρ g τ Q := aw_lc m279 d279_1707 rfl rfl rfl
theorem d279_1708 : decode cL_law 1708 = .ok (.iaload, 1) := by decide +kernel
theorem s279_1708 {d : Nat} {st : List Value} {σ : am_I} {ρ : am_R} {g : am_J} {τ : am_T} {Q : am_Q} {x0 x1 x2 x3 : Value} {a : Nat} {j : Int32} (ht : τ.1 a = 15) (hj : am_inb j (τ.2.1 a) = true) : AW d 279 1708 [x0, x1, x2, x3] (.int j :: .ref a :: st) σ ρ g τ Q = AW d 279 1709 [x0, x1, x2, x3] (.int (σ a j.toNatClampNeg) :: st) σ ρ g τ Q := aw_ial m279 d279_1708 rfl ht hj
theorem d279_1709 : decode cL_law 1709 = .ok (.aload_n 0, 1) := by decide +kernel
theorem s279_1709 {d : Nat} {st : List Value} {σ : am_I} {ρ : am_R} {g : am_J} {τ : am_T} {Q : am_Q} {x1 x2 x3 : Value} {v : Nat} : AW d 279 1709 [.ref v, x1, x2, x3] (st) σ ρ g τ Q = AW d 279 1710 [.ref v, x1, x2, x3] (.ref v :: st) σ ρ g τ Q := aw_lc m279 d279_1709 rfl rfl rfl
theorem d279_1710 : decode cL_law 1710 = .ok (.iload_n 3, 1) := by decide +kernel
theorem s279_1710 {d : Nat} {st : List Value} {σ : am_I} {ρ : am_R} {g : am_J} {τ : am_T} {Q : am_Q} {x0 x1 x2 : Value} {v : Int32} : AW d 279 1710 [x0, x1, x2, .int v] (st) σ ρ g τ Q = AW d 279 1711 [x0, x1, x2, .int v] (.int v :: st) σ ρ g τ Q := aw_lc m279 d279_1710 rfl rfl rfl
theorem d279_1711 : decode cL_law 1711 = .ok (.iconst 3, 1) := by decide +kernel
theorem s279_1711 {d : Nat} {st : List Value} {σ : am_I} {ρ : am_R} {g : am_J} {τ : am_T} {Q : am_Q} {x0 x1 x2 x3 : Value} : AW d 279 1711 [x0, x1, x2, x3] (st) σ ρ g τ Q = AW d 279 1712 [x0, x1, x2, x3] (.int 3 :: st) σ ρ g τ Q := aw_lc m279 d279_1711 rfl rfl rfl
theorem d279_1712 : decode cL_law 1712 = .ok (.iadd, 1) := by decide +kernel
theorem s279_1712 {d : Nat} {st : List Value} {σ : am_I} {ρ : am_R} {g : am_J} {τ : am_T} {Q : am_Q} {x0 x1 x2 x3 : Value} {v w : Int32} : AW d 279 1712 [x0, x1, x2, x3] (.int w :: .int v :: st) σ ρ g τ Q = AW d 279 1713 [x0, x1, x2, x3] (.int (v + w) :: st) σ ρ g τ Q := aw_lc m279 d279_1712 rfl rfl rfl
theorem d279_1713 : decode cL_law 1713 = .ok (.iaload, 1) := by decide +kernel
theorem s279_1713 {d : Nat} {st : List Value} {σ : am_I} {ρ : am_R} {g : am_J} {τ : am_T} {Q : am_Q} {x0 x1 x2 x3 : Value} {a : Nat} {j : Int32} (ht : τ.1 a = 15) (hj : am_inb j (τ.2.1 a) = true) : AW d 279 1713 [x0, x1, x2, x3] (.int j :: .ref a :: st) σ ρ g τ Q = AW d 279 1714 [x0, x1, x2, x3] (.int (σ a j.toNatClampNeg) :: st) σ ρ g τ Q := aw_ial m279 d279_1713 rfl ht hj
theorem d279_1714 : decode cL_law 1714 = .ok (.invokevirtual 181, 3) := by decide +kernel
theorem s279_1714 {d : Nat} {st : List Value} {σ : am_I} {ρ : am_R} {g : am_J} {τ : am_T} {Q : am_Q} {x0 x1 x2 x3 : Value} {p0 : Nat} {p1 : Int32} {p2 : Int32} {p3 : Int32} (ht : τ.1 p0 = 11) (hs : st.length ≤ 4) : AW (d + 1) 279 1714 [x0, x1, x2, x3] (.int p3 :: .int p2 :: .int p1 :: .ref p0 :: st) σ ρ g τ Q = AW d 159 0 [.ref p0, .int p1, .int p2, .int p3, am_jk, am_jk] [] σ ρ g τ (fun r9 σ ρ g τ => AW (d + 1) 279 1717 [x0, x1, x2, x3] (r9.toList ++ st) σ ρ g τ Q) := aw_cv m279 d279_1714 rfl m159 rfl rfl (by decide) en159 ok159 rfl ht hs
theorem d279_1717 : decode cL_law 1717 = .ok (.aload_n 2, 1) := by decide +kernel
theorem s279_1717 {d : Nat} {st : List Value} {σ : am_I} {ρ : am_R} {g : am_J} {τ : am_T} {Q : am_Q} {x0 x1 x3 : Value} {v : Nat} : AW d 279 1717 [x0, x1, .ref v, x3] (st) σ ρ g τ Q = AW d 279 1718 [x0, x1, .ref v, x3] (.ref v :: st) σ ρ g τ Q := aw_lc m279 d279_1717 rfl rfl rfl
theorem d279_1718 : decode cL_law 1718 = .ok (.aload_n 0, 1) := by decide +kernel
theorem s279_1718 {d : Nat} {st : List Value} {σ : am_I} {ρ : am_R} {g : am_J} {τ : am_T} {Q : am_Q} {x1 x2 x3 : Value} {v : Nat} : AW d 279 1718 [.ref v, x1, x2, x3] (st) σ ρ g τ Q = AW d 279 1719 [.ref v, x1, x2, x3] (.ref v :: st) σ ρ g τ Q := aw_lc m279 d279_1718 rfl rfl rfl
theorem d279_1719 : decode cL_law 1719 = .ok (.iload_n 3, 1) := by decide +kernel
theorem s279_1719 {d : Nat} {st : List Value} {σ : am_I} {ρ : am_R} {g : am_J} {τ : am_T} {Q : am_Q} {x0 x1 x2 : Value} {v : Int32} : AW d 279 1719 [x0, x1, x2, .int v] (st) σ ρ g τ Q = AW d 279 1720 [x0, x1, x2, .int v] (.int v :: st) σ ρ g τ Q := aw_lc m279 d279_1719 rfl rfl rfl
theorem d279_1720 : decode cL_law 1720 = .ok (.iconst 1, 1) := by decide +kernel
theorem s279_1720 {d : Nat} {st : List Value} {σ : am_I} {ρ : am_R} {g : am_J} {τ : am_T} {Q : am_Q} {x0 x1 x2 x3 : Value} : AW d 279 1720 [x0, x1, x2, x3] (st) σ ρ g τ Q = AW d 279 1721 [x0, x1, x2, x3] (.int 1 :: st) σ ρ g τ Q := aw_lc m279 d279_1720 rfl rfl rfl
theorem d279_1721 : decode cL_law 1721 = .ok (.iadd, 1) := by decide +kernel
theorem s279_1721 {d : Nat} {st : List Value} {σ : am_I} {ρ : am_R} {g : am_J} {τ : am_T} {Q : am_Q} {x0 x1 x2 x3 : Value} {v w : Int32} : AW d 279 1721 [x0, x1, x2, x3] (.int w :: .int v :: st) σ ρ g τ Q = AW d 279 1722 [x0, x1, x2, x3] (.int (v + w) :: st) σ ρ g τ Q := aw_lc m279 d279_1721 rfl rfl rfl
theorem d279_1722 : decode cL_law 1722 = .ok (.iaload, 1) := by decide +kernel
theorem s279_1722 {d : Nat} {st : List Value} {σ : am_I} {ρ : am_R} {g : am_J} {τ : am_T} {Q : am_Q} {x0 x1 x2 x3 : Value} {a : Nat} {j : Int32} (ht : τ.1 a = 15) (hj : am_inb j (τ.2.1 a) = true) : AW d 279 1722 [x0, x1, x2, x3] (.int j :: .ref a :: st) σ ρ g τ Q = AW d 279 1723 [x0, x1, x2, x3] (.int (σ a j.toNatClampNeg) :: st) σ ρ g τ Q := aw_ial m279 d279_1722 rfl ht hj
theorem d279_1723 : decode cL_law 1723 = .ok (.aload_n 0, 1) := by decide +kernel
theorem s279_1723 {d : Nat} {st : List Value} {σ : am_I} {ρ : am_R} {g : am_J} {τ : am_T} {Q : am_Q} {x1 x2 x3 : Value} {v : Nat} : AW d 279 1723 [.ref v, x1, x2, x3] (st) σ ρ g τ Q = AW d 279 1724 [.ref v, x1, x2, x3] (.ref v :: st) σ ρ g τ Q := aw_lc m279 d279_1723 rfl rfl rfl
theorem d279_1724 : decode cL_law 1724 = .ok (.iload_n 3, 1) := by decide +kernel
theorem s279_1724 {d : Nat} {st : List Value} {σ : am_I} {ρ : am_R} {g : am_J} {τ : am_T} {Q : am_Q} {x0 x1 x2 : Value} {v : Int32} : AW d 279 1724 [x0, x1, x2, .int v] (st) σ ρ g τ Q = AW d 279 1725 [x0, x1, x2, .int v] (.int v :: st) σ ρ g τ Q := aw_lc m279 d279_1724 rfl rfl rfl
theorem d279_1725 : decode cL_law 1725 = .ok (.iconst 2, 1) := by decide +kernel
theorem s279_1725 {d : Nat} {st : List Value} {σ : am_I} {ρ : am_R} {g : am_J} {τ : am_T} {Q : am_Q} {x0 x1 x2 x3 : Value} : AW d 279 1725 [x0, x1, x2, x3] (st) σ ρ g τ Q = AW d 279 1726 [x0, x1, x2, x3] (.int 2 :: st) σ ρ g τ Q := aw_lc m279 d279_1725 rfl rfl rfl
theorem d279_1726 : decode cL_law 1726 = .ok (.iadd, 1) := by decide +kernel
theorem s279_1726 {d : Nat} {st : List Value} {σ : am_I} {ρ : am_R} {g : am_J} {τ : am_T} {Q : am_Q} {x0 x1 x2 x3 : Value} {v w : Int32} : AW d 279 1726 [x0, x1, x2, x3] (.int w :: .int v :: st) σ ρ g τ Q = AW d 279 1727 [x0, x1, x2, x3] (.int (v + w) :: st) σ ρ g τ Q := aw_lc m279 d279_1726 rfl rfl rfl
theorem d279_1727 : decode cL_law 1727 = .ok (.iaload, 1) := by decide +kernel
theorem s279_1727 {d : Nat} {st : List Value} {σ : am_I} {ρ : am_R} {g : am_J} {τ : am_T} {Q : am_Q} {x0 x1 x2 x3 : Value} {a : Nat} {j : Int32} (ht : τ.1 a = 15) (hj : am_inb j (τ.2.1 a) = true) : AW d 279 1727 [x0, x1, x2, x3] (.int j :: .ref a :: st) σ ρ g τ Q = AW d 279 1728 [x0, x1, x2, x3] (.int (σ a j.toNatClampNeg) :: st) σ ρ g τ Q := aw_ial m279 d279_1727 rfl ht hj
theorem d279_1728 : decode cL_law 1728 = .ok (.aload_n 0, 1) := by decide +kernel
theorem s279_1728 {d : Nat} {st : List Value} {σ : am_I} {ρ : am_R} {g : am_J} {τ : am_T} {Q : am_Q} {x1 x2 x3 : Value} {v : Nat} : AW d 279 1728 [.ref v, x1, x2, x3] (st) σ ρ g τ Q = AW d 279 1729 [.ref v, x1, x2, x3] (.ref v :: st) σ ρ g τ Q := aw_lc m279 d279_1728 rfl rfl rfl
theorem d279_1729 : decode cL_law 1729 = .ok (.iload_n 3, 1) := by decide +kernel
theorem s279_1729 {d : Nat} {st : List Value} {σ : am_I} {ρ : am_R} {g : am_J} {τ : am_T} {Q : am_Q} {x0 x1 x2 : Value} {v : Int32} : AW d 279 1729 [x0, x1, x2, .int v] (st) σ ρ g τ Q = AW d 279 1730 [x0, x1, x2, .int v] (.int v :: st) σ ρ g τ Q := aw_lc m279 d279_1729 rfl rfl rfl
theorem d279_1730 : decode cL_law 1730 = .ok (.iconst 3, 1) := by decide +kernel
theorem s279_1730 {d : Nat} {st : List Value} {σ : am_I} {ρ : am_R} {g : am_J} {τ : am_T} {Q : am_Q} {x0 x1 x2 x3 : Value} : AW d 279 1730 [x0, x1, x2, x3] (st) σ ρ g τ Q = AW d 279 1731 [x0, x1, x2, x3] (.int 3 :: st) σ ρ g τ Q := aw_lc m279 d279_1730 rfl rfl rfl
theorem d279_1731 : decode cL_law 1731 = .ok (.iadd, 1) := by decide +kernel
theorem s279_1731 {d : Nat} {st : List Value} {σ : am_I} {ρ : am_R} {g : am_J} {τ : am_T} {Q : am_Q} {x0 x1 x2 x3 : Value} {v w : Int32} : AW d 279 1731 [x0, x1, x2, x3] (.int w :: .int v :: st) σ ρ g τ Q = AW d 279 1732 [x0, x1, x2, x3] (.int (v + w) :: st) σ ρ g τ Q := aw_lc m279 d279_1731 rfl rfl rfl
theorem d279_1732 : decode cL_law 1732 = .ok (.iaload, 1) := by decide +kernel
theorem s279_1732 {d : Nat} {st : List Value} {σ : am_I} {ρ : am_R} {g : am_J} {τ : am_T} {Q : am_Q} {x0 x1 x2 x3 : Value} {a : Nat} {j : Int32} (ht : τ.1 a = 15) (hj : am_inb j (τ.2.1 a) = true) : AW d 279 1732 [x0, x1, x2, x3] (.int j :: .ref a :: st) σ ρ g τ Q = AW d 279 1733 [x0, x1, x2, x3] (.int (σ a j.toNatClampNeg) :: st) σ ρ g τ Q := aw_ial m279 d279_1732 rfl ht hj
theorem d279_1733 : decode cL_law 1733 = .ok (.invokevirtual 184, 3) := by decide +kernel
theorem s279_1733 {d : Nat} {st : List Value} {σ : am_I} {ρ : am_R} {g : am_J} {τ : am_T} {Q : am_Q} {x0 x1 x2 x3 : Value} {p0 : Nat} {p1 : Int32} {p2 : Int32} {p3 : Int32} (ht : τ.1 p0 = 12) (hs : st.length ≤ 4) : AW (d + 1) 279 1733 [x0, x1, x2, x3] (.int p3 :: .int p2 :: .int p1 :: .ref p0 :: st) σ ρ g τ Q = AW d 263 0 [.ref p0, .int p1, .int p2, .int p3, am_jk] [] σ ρ g τ (fun r9 σ ρ g τ => AW (d + 1) 279 1736 [x0, x1, x2, x3] (r9.toList ++ st) σ ρ g τ Q) := aw_cv m279 d279_1733 rfl m263 rfl rfl (by decide) en263 ok263 rfl ht hs
theorem d279_1736 : decode cL_law 1736 = .ok (.if_icmp .eq 77, 3) := by decide +kernel
theorem s279_1736 {d : Nat} {st : List Value} {σ : am_I} {ρ : am_R} {g : am_J} {τ : am_T} {Q : am_Q} {x0 x1 x2 x3 : Value} {v w : Int32} : AW d 279 1736 [x0, x1, x2, x3] (.int w :: .int v :: st) σ ρ g τ Q = if v = w then AW d 279 1813 [x0, x1, x2, x3] (st) σ ρ g τ Q else AW d 279 1739 [x0, x1, x2, x3] (st) σ ρ g τ Q := aw_br m279 d279_1736 rfl rfl rfl
theorem d279_1739 : decode cL_law 1739 = .ok (.iconst 0, 1) := by decide +kernel
theorem s279_1739 {d : Nat} {st : List Value} {σ : am_I} {ρ : am_R} {g : am_J} {τ : am_T} {Q : am_Q} {x0 x1 x2 x3 : Value} : AW d 279 1739 [x0, x1, x2, x3] (st) σ ρ g τ Q = AW d 279 1740 [x0, x1, x2, x3] (.int 0 :: st) σ ρ g τ Q := aw_lc m279 d279_1739 rfl rfl rfl
theorem d279_1740 : decode cL_law 1740 = .ok (.ireturn, 1) := by decide +kernel
theorem s279_1740 {d : Nat} {σ : am_I} {ρ : am_R} {g : am_J} {τ : am_T} {Q : am_Q} {x0 x1 x2 x3 : Value} {v : Int32} (hv : am_b01 v = true) : AW d 279 1740 [x0, x1, x2, x3] ([.int v]) σ ρ g τ Q = Q (some (.int v)) σ ρ g τ := aw_rz m279 d279_1740 rfl hv
theorem d279_1741 : decode cL_law 1741 = .ok (.aload_n 1, 1) := by decide +kernel
theorem s279_1741 {d : Nat} {st : List Value} {σ : am_I} {ρ : am_R} {g : am_J} {τ : am_T} {Q : am_Q} {x0 x2 x3 : Value} {v : Nat} : AW d 279 1741 [x0, .ref v, x2, x3] (st) σ ρ g τ Q = AW d 279 1742 [x0, .ref v, x2, x3] (.ref v :: st) σ ρ g τ Q := aw_lc m279 d279_1741 rfl rfl rfl
theorem d279_1742 : decode cL_law 1742 = .ok (.aload_n 0, 1) := by decide +kernel
theorem s279_1742 {d : Nat} {st : List Value} {σ : am_I} {ρ : am_R} {g : am_J} {τ : am_T} {Q : am_Q} {x1 x2 x3 : Value} {v : Nat} : AW d 279 1742 [.ref v, x1, x2, x3] (st) σ ρ g τ Q = AW d 279 1743 [.ref v, x1, x2, x3] (.ref v :: st) σ ρ g τ Q := aw_lc m279 d279_1742 rfl rfl rfl
theorem d279_1743 : decode cL_law 1743 = .ok (.iload_n 3, 1) := by decide +kernel
theorem s279_1743 {d : Nat} {st : List Value} {σ : am_I} {ρ : am_R} {g : am_J} {τ : am_T} {Q : am_Q} {x0 x1 x2 : Value} {v : Int32} : AW d 279 1743 [x0, x1, x2, .int v] (st) σ ρ g τ Q = AW d 279 1744 [x0, x1, x2, .int v] (.int v :: st) σ ρ g τ Q := aw_lc m279 d279_1743 rfl rfl rfl
theorem d279_1744 : decode cL_law 1744 = .ok (.iconst 1, 1) := by decide +kernel
theorem s279_1744 {d : Nat} {st : List Value} {σ : am_I} {ρ : am_R} {g : am_J} {τ : am_T} {Q : am_Q} {x0 x1 x2 x3 : Value} : AW d 279 1744 [x0, x1, x2, x3] (st) σ ρ g τ Q = AW d 279 1745 [x0, x1, x2, x3] (.int 1 :: st) σ ρ g τ Q := aw_lc m279 d279_1744 rfl rfl rfl
theorem d279_1745 : decode cL_law 1745 = .ok (.iadd, 1) := by decide +kernel
theorem s279_1745 {d : Nat} {st : List Value} {σ : am_I} {ρ : am_R} {g : am_J} {τ : am_T} {Q : am_Q} {x0 x1 x2 x3 : Value} {v w : Int32} : AW d 279 1745 [x0, x1, x2, x3] (.int w :: .int v :: st) σ ρ g τ Q = AW d 279 1746 [x0, x1, x2, x3] (.int (v + w) :: st) σ ρ g τ Q := aw_lc m279 d279_1745 rfl rfl rfl
theorem d279_1746 : decode cL_law 1746 = .ok (.iaload, 1) := by decide +kernel
theorem s279_1746 {d : Nat} {st : List Value} {σ : am_I} {ρ : am_R} {g : am_J} {τ : am_T} {Q : am_Q} {x0 x1 x2 x3 : Value} {a : Nat} {j : Int32} (ht : τ.1 a = 15) (hj : am_inb j (τ.2.1 a) = true) : AW d 279 1746 [x0, x1, x2, x3] (.int j :: .ref a :: st) σ ρ g τ Q = AW d 279 1747 [x0, x1, x2, x3] (.int (σ a j.toNatClampNeg) :: st) σ ρ g τ Q := aw_ial m279 d279_1746 rfl ht hj
theorem d279_1747 : decode cL_law 1747 = .ok (.invokevirtual 185, 3) := by decide +kernel
theorem s279_1747 {d : Nat} {st : List Value} {σ : am_I} {ρ : am_R} {g : am_J} {τ : am_T} {Q : am_Q} {x0 x1 x2 x3 : Value} {p0 : Nat} {p1 : Int32} (ht : τ.1 p0 = 11) (hs : st.length ≤ 4) : AW (d + 1) 279 1747 [x0, x1, x2, x3] (.int p1 :: .ref p0 :: st) σ ρ g τ Q = AW d 160 0 [.ref p0, .int p1] [] σ ρ g τ (fun r9 σ ρ g τ => AW (d + 1) 279 1750 [x0, x1, x2, x3] (r9.toList ++ st) σ ρ g τ Q) := aw_cv m279 d279_1747 rfl m160 rfl rfl (by decide) en160 ok160 rfl ht hs
theorem d279_1750 : decode cL_law 1750 = .ok (.aload_n 2, 1) := by decide +kernel
theorem s279_1750 {d : Nat} {st : List Value} {σ : am_I} {ρ : am_R} {g : am_J} {τ : am_T} {Q : am_Q} {x0 x1 x3 : Value} {v : Nat} : AW d 279 1750 [x0, x1, .ref v, x3] (st) σ ρ g τ Q = AW d 279 1751 [x0, x1, .ref v, x3] (.ref v :: st) σ ρ g τ Q := aw_lc m279 d279_1750 rfl rfl rfl
theorem d279_1751 : decode cL_law 1751 = .ok (.aload_n 0, 1) := by decide +kernel
theorem s279_1751 {d : Nat} {st : List Value} {σ : am_I} {ρ : am_R} {g : am_J} {τ : am_T} {Q : am_Q} {x1 x2 x3 : Value} {v : Nat} : AW d 279 1751 [.ref v, x1, x2, x3] (st) σ ρ g τ Q = AW d 279 1752 [.ref v, x1, x2, x3] (.ref v :: st) σ ρ g τ Q := aw_lc m279 d279_1751 rfl rfl rfl
theorem d279_1752 : decode cL_law 1752 = .ok (.iload_n 3, 1) := by decide +kernel
theorem s279_1752 {d : Nat} {st : List Value} {σ : am_I} {ρ : am_R} {g : am_J} {τ : am_T} {Q : am_Q} {x0 x1 x2 : Value} {v : Int32} : AW d 279 1752 [x0, x1, x2, .int v] (st) σ ρ g τ Q = AW d 279 1753 [x0, x1, x2, .int v] (.int v :: st) σ ρ g τ Q := aw_lc m279 d279_1752 rfl rfl rfl
theorem d279_1753 : decode cL_law 1753 = .ok (.iconst 1, 1) := by decide +kernel
theorem s279_1753 {d : Nat} {st : List Value} {σ : am_I} {ρ : am_R} {g : am_J} {τ : am_T} {Q : am_Q} {x0 x1 x2 x3 : Value} : AW d 279 1753 [x0, x1, x2, x3] (st) σ ρ g τ Q = AW d 279 1754 [x0, x1, x2, x3] (.int 1 :: st) σ ρ g τ Q := aw_lc m279 d279_1753 rfl rfl rfl
theorem d279_1754 : decode cL_law 1754 = .ok (.iadd, 1) := by decide +kernel
theorem s279_1754 {d : Nat} {st : List Value} {σ : am_I} {ρ : am_R} {g : am_J} {τ : am_T} {Q : am_Q} {x0 x1 x2 x3 : Value} {v w : Int32} : AW d 279 1754 [x0, x1, x2, x3] (.int w :: .int v :: st) σ ρ g τ Q = AW d 279 1755 [x0, x1, x2, x3] (.int (v + w) :: st) σ ρ g τ Q := aw_lc m279 d279_1754 rfl rfl rfl
theorem d279_1755 : decode cL_law 1755 = .ok (.iaload, 1) := by decide +kernel
theorem s279_1755 {d : Nat} {st : List Value} {σ : am_I} {ρ : am_R} {g : am_J} {τ : am_T} {Q : am_Q} {x0 x1 x2 x3 : Value} {a : Nat} {j : Int32} (ht : τ.1 a = 15) (hj : am_inb j (τ.2.1 a) = true) : AW d 279 1755 [x0, x1, x2, x3] (.int j :: .ref a :: st) σ ρ g τ Q = AW d 279 1756 [x0, x1, x2, x3] (.int (σ a j.toNatClampNeg) :: st) σ ρ g τ Q := aw_ial m279 d279_1755 rfl ht hj
theorem d279_1756 : decode cL_law 1756 = .ok (.invokevirtual 188, 3) := by decide +kernel
theorem s279_1756 {d : Nat} {st : List Value} {σ : am_I} {ρ : am_R} {g : am_J} {τ : am_T} {Q : am_Q} {x0 x1 x2 x3 : Value} {p0 : Nat} {p1 : Int32} (ht : τ.1 p0 = 12) (hs : st.length ≤ 4) : AW (d + 1) 279 1756 [x0, x1, x2, x3] (.int p1 :: .ref p0 :: st) σ ρ g τ Q = AW d 264 0 [.ref p0, .int p1] [] σ ρ g τ (fun r9 σ ρ g τ => AW (d + 1) 279 1759 [x0, x1, x2, x3] (r9.toList ++ st) σ ρ g τ Q) := aw_cv m279 d279_1756 rfl m264 rfl rfl (by decide) en264 ok264 rfl ht hs
theorem d279_1759 : decode cL_law 1759 = .ok (.if_icmp .eq 54, 3) := by decide +kernel
theorem s279_1759 {d : Nat} {st : List Value} {σ : am_I} {ρ : am_R} {g : am_J} {τ : am_T} {Q : am_Q} {x0 x1 x2 x3 : Value} {v w : Int32} : AW d 279 1759 [x0, x1, x2, x3] (.int w :: .int v :: st) σ ρ g τ Q = if v = w then AW d 279 1813 [x0, x1, x2, x3] (st) σ ρ g τ Q else AW d 279 1762 [x0, x1, x2, x3] (st) σ ρ g τ Q := aw_br m279 d279_1759 rfl rfl rfl
theorem d279_1762 : decode cL_law 1762 = .ok (.iconst 0, 1) := by decide +kernel
theorem s279_1762 {d : Nat} {st : List Value} {σ : am_I} {ρ : am_R} {g : am_J} {τ : am_T} {Q : am_Q} {x0 x1 x2 x3 : Value} : AW d 279 1762 [x0, x1, x2, x3] (st) σ ρ g τ Q = AW d 279 1763 [x0, x1, x2, x3] (.int 0 :: st) σ ρ g τ Q := aw_lc m279 d279_1762 rfl rfl rfl
theorem d279_1763 : decode cL_law 1763 = .ok (.ireturn, 1) := by decide +kernel
theorem s279_1763 {d : Nat} {σ : am_I} {ρ : am_R} {g : am_J} {τ : am_T} {Q : am_Q} {x0 x1 x2 x3 : Value} {v : Int32} (hv : am_b01 v = true) : AW d 279 1763 [x0, x1, x2, x3] ([.int v]) σ ρ g τ Q = Q (some (.int v)) σ ρ g τ := aw_rz m279 d279_1763 rfl hv
theorem d279_1764 : decode cL_law 1764 = .ok (.aload_n 1, 1) := by decide +kernel
theorem s279_1764 {d : Nat} {st : List Value} {σ : am_I} {ρ : am_R} {g : am_J} {τ : am_T} {Q : am_Q} {x0 x2 x3 : Value} {v : Nat} : AW d 279 1764 [x0, .ref v, x2, x3] (st) σ ρ g τ Q = AW d 279 1765 [x0, .ref v, x2, x3] (.ref v :: st) σ ρ g τ Q := aw_lc m279 d279_1764 rfl rfl rfl
theorem d279_1765 : decode cL_law 1765 = .ok (.aload_n 0, 1) := by decide +kernel
theorem s279_1765 {d : Nat} {st : List Value} {σ : am_I} {ρ : am_R} {g : am_J} {τ : am_T} {Q : am_Q} {x1 x2 x3 : Value} {v : Nat} : AW d 279 1765 [.ref v, x1, x2, x3] (st) σ ρ g τ Q = AW d 279 1766 [.ref v, x1, x2, x3] (.ref v :: st) σ ρ g τ Q := aw_lc m279 d279_1765 rfl rfl rfl
theorem d279_1766 : decode cL_law 1766 = .ok (.iload_n 3, 1) := by decide +kernel
theorem s279_1766 {d : Nat} {st : List Value} {σ : am_I} {ρ : am_R} {g : am_J} {τ : am_T} {Q : am_Q} {x0 x1 x2 : Value} {v : Int32} : AW d 279 1766 [x0, x1, x2, .int v] (st) σ ρ g τ Q = AW d 279 1767 [x0, x1, x2, .int v] (.int v :: st) σ ρ g τ Q := aw_lc m279 d279_1766 rfl rfl rfl
theorem d279_1767 : decode cL_law 1767 = .ok (.iconst 1, 1) := by decide +kernel
theorem s279_1767 {d : Nat} {st : List Value} {σ : am_I} {ρ : am_R} {g : am_J} {τ : am_T} {Q : am_Q} {x0 x1 x2 x3 : Value} : AW d 279 1767 [x0, x1, x2, x3] (st) σ ρ g τ Q = AW d 279 1768 [x0, x1, x2, x3] (.int 1 :: st) σ ρ g τ Q := aw_lc m279 d279_1767 rfl rfl rfl
theorem d279_1768 : decode cL_law 1768 = .ok (.iadd, 1) := by decide +kernel
theorem s279_1768 {d : Nat} {st : List Value} {σ : am_I} {ρ : am_R} {g : am_J} {τ : am_T} {Q : am_Q} {x0 x1 x2 x3 : Value} {v w : Int32} : AW d 279 1768 [x0, x1, x2, x3] (.int w :: .int v :: st) σ ρ g τ Q = AW d 279 1769 [x0, x1, x2, x3] (.int (v + w) :: st) σ ρ g τ Q := aw_lc m279 d279_1768 rfl rfl rfl
theorem d279_1769 : decode cL_law 1769 = .ok (.iaload, 1) := by decide +kernel
theorem s279_1769 {d : Nat} {st : List Value} {σ : am_I} {ρ : am_R} {g : am_J} {τ : am_T} {Q : am_Q} {x0 x1 x2 x3 : Value} {a : Nat} {j : Int32} (ht : τ.1 a = 15) (hj : am_inb j (τ.2.1 a) = true) : AW d 279 1769 [x0, x1, x2, x3] (.int j :: .ref a :: st) σ ρ g τ Q = AW d 279 1770 [x0, x1, x2, x3] (.int (σ a j.toNatClampNeg) :: st) σ ρ g τ Q := aw_ial m279 d279_1769 rfl ht hj
theorem d279_1770 : decode cL_law 1770 = .ok (.invokevirtual 189, 3) := by decide +kernel
theorem s279_1770 {d : Nat} {st : List Value} {σ : am_I} {ρ : am_R} {g : am_J} {τ : am_T} {Q : am_Q} {x0 x1 x2 x3 : Value} {p0 : Nat} {p1 : Int32} (ht : τ.1 p0 = 11) (hs : st.length ≤ 4) : AW (d + 1) 279 1770 [x0, x1, x2, x3] (.int p1 :: .ref p0 :: st) σ ρ g τ Q = AW d 161 0 [.ref p0, .int p1] [] σ ρ g τ (fun r9 σ ρ g τ => AW (d + 1) 279 1773 [x0, x1, x2, x3] (r9.toList ++ st) σ ρ g τ Q) := aw_cv m279 d279_1770 rfl m161 rfl rfl (by decide) en161 ok161 rfl ht hs
theorem d279_1773 : decode cL_law 1773 = .ok (.aload_n 2, 1) := by decide +kernel
theorem s279_1773 {d : Nat} {st : List Value} {σ : am_I} {ρ : am_R} {g : am_J} {τ : am_T} {Q : am_Q} {x0 x1 x3 : Value} {v : Nat} : AW d 279 1773 [x0, x1, .ref v, x3] (st) σ ρ g τ Q = AW d 279 1774 [x0, x1, .ref v, x3] (.ref v :: st) σ ρ g τ Q := aw_lc m279 d279_1773 rfl rfl rfl
theorem d279_1774 : decode cL_law 1774 = .ok (.aload_n 0, 1) := by decide +kernel
theorem s279_1774 {d : Nat} {st : List Value} {σ : am_I} {ρ : am_R} {g : am_J} {τ : am_T} {Q : am_Q} {x1 x2 x3 : Value} {v : Nat} : AW d 279 1774 [.ref v, x1, x2, x3] (st) σ ρ g τ Q = AW d 279 1775 [.ref v, x1, x2, x3] (.ref v :: st) σ ρ g τ Q := aw_lc m279 d279_1774 rfl rfl rfl
theorem d279_1775 : decode cL_law 1775 = .ok (.iload_n 3, 1) := by decide +kernel
theorem s279_1775 {d : Nat} {st : List Value} {σ : am_I} {ρ : am_R} {g : am_J} {τ : am_T} {Q : am_Q} {x0 x1 x2 : Value} {v : Int32} : AW d 279 1775 [x0, x1, x2, .int v] (st) σ ρ g τ Q = AW d 279 1776 [x0, x1, x2, .int v] (.int v :: st) σ ρ g τ Q := aw_lc m279 d279_1775 rfl rfl rfl
theorem d279_1776 : decode cL_law 1776 = .ok (.iconst 1, 1) := by decide +kernel
theorem s279_1776 {d : Nat} {st : List Value} {σ : am_I} {ρ : am_R} {g : am_J} {τ : am_T} {Q : am_Q} {x0 x1 x2 x3 : Value} : AW d 279 1776 [x0, x1, x2, x3] (st) σ ρ g τ Q = AW d 279 1777 [x0, x1, x2, x3] (.int 1 :: st) σ ρ g τ Q := aw_lc m279 d279_1776 rfl rfl rfl
theorem d279_1777 : decode cL_law 1777 = .ok (.iadd, 1) := by decide +kernel
theorem s279_1777 {d : Nat} {st : List Value} {σ : am_I} {ρ : am_R} {g : am_J} {τ : am_T} {Q : am_Q} {x0 x1 x2 x3 : Value} {v w : Int32} : AW d 279 1777 [x0, x1, x2, x3] (.int w :: .int v :: st) σ ρ g τ Q = AW d 279 1778 [x0, x1, x2, x3] (.int (v + w) :: st) σ ρ g τ Q := aw_lc m279 d279_1777 rfl rfl rfl
theorem d279_1778 : decode cL_law 1778 = .ok (.iaload, 1) := by decide +kernel
theorem s279_1778 {d : Nat} {st : List Value} {σ : am_I} {ρ : am_R} {g : am_J} {τ : am_T} {Q : am_Q} {x0 x1 x2 x3 : Value} {a : Nat} {j : Int32} (ht : τ.1 a = 15) (hj : am_inb j (τ.2.1 a) = true) : AW d 279 1778 [x0, x1, x2, x3] (.int j :: .ref a :: st) σ ρ g τ Q = AW d 279 1779 [x0, x1, x2, x3] (.int (σ a j.toNatClampNeg) :: st) σ ρ g τ Q := aw_ial m279 d279_1778 rfl ht hj
theorem d279_1779 : decode cL_law 1779 = .ok (.invokevirtual 192, 3) := by decide +kernel
theorem s279_1779 {d : Nat} {st : List Value} {σ : am_I} {ρ : am_R} {g : am_J} {τ : am_T} {Q : am_Q} {x0 x1 x2 x3 : Value} {p0 : Nat} {p1 : Int32} (ht : τ.1 p0 = 12) (hs : st.length ≤ 4) : AW (d + 1) 279 1779 [x0, x1, x2, x3] (.int p1 :: .ref p0 :: st) σ ρ g τ Q = AW d 265 0 [.ref p0, .int p1, am_jk, am_jk] [] σ ρ g τ (fun r9 σ ρ g τ => AW (d + 1) 279 1782 [x0, x1, x2, x3] (r9.toList ++ st) σ ρ g τ Q) := aw_cv m279 d279_1779 rfl m265 rfl rfl (by decide) en265 ok265 rfl ht hs
theorem d279_1782 : decode cL_law 1782 = .ok (.if_icmp .eq 31, 3) := by decide +kernel
theorem s279_1782 {d : Nat} {st : List Value} {σ : am_I} {ρ : am_R} {g : am_J} {τ : am_T} {Q : am_Q} {x0 x1 x2 x3 : Value} {v w : Int32} : AW d 279 1782 [x0, x1, x2, x3] (.int w :: .int v :: st) σ ρ g τ Q = if v = w then AW d 279 1813 [x0, x1, x2, x3] (st) σ ρ g τ Q else AW d 279 1785 [x0, x1, x2, x3] (st) σ ρ g τ Q := aw_br m279 d279_1782 rfl rfl rfl
theorem d279_1785 : decode cL_law 1785 = .ok (.iconst 0, 1) := by decide +kernel
theorem s279_1785 {d : Nat} {st : List Value} {σ : am_I} {ρ : am_R} {g : am_J} {τ : am_T} {Q : am_Q} {x0 x1 x2 x3 : Value} : AW d 279 1785 [x0, x1, x2, x3] (st) σ ρ g τ Q = AW d 279 1786 [x0, x1, x2, x3] (.int 0 :: st) σ ρ g τ Q := aw_lc m279 d279_1785 rfl rfl rfl
theorem d279_1786 : decode cL_law 1786 = .ok (.ireturn, 1) := by decide +kernel
theorem s279_1786 {d : Nat} {σ : am_I} {ρ : am_R} {g : am_J} {τ : am_T} {Q : am_Q} {x0 x1 x2 x3 : Value} {v : Int32} (hv : am_b01 v = true) : AW d 279 1786 [x0, x1, x2, x3] ([.int v]) σ ρ g τ Q = Q (some (.int v)) σ ρ g τ := aw_rz m279 d279_1786 rfl hv
theorem d279_1787 : decode cL_law 1787 = .ok (.aload_n 1, 1) := by decide +kernel
theorem s279_1787 {d : Nat} {st : List Value} {σ : am_I} {ρ : am_R} {g : am_J} {τ : am_T} {Q : am_Q} {x0 x2 x3 : Value} {v : Nat} : AW d 279 1787 [x0, .ref v, x2, x3] (st) σ ρ g τ Q = AW d 279 1788 [x0, .ref v, x2, x3] (.ref v :: st) σ ρ g τ Q := aw_lc m279 d279_1787 rfl rfl rfl
theorem d279_1788 : decode cL_law 1788 = .ok (.invokevirtual 193, 3) := by decide +kernel
theorem s279_1788 {d : Nat} {st : List Value} {σ : am_I} {ρ : am_R} {g : am_J} {τ : am_T} {Q : am_Q} {x0 x1 x2 x3 : Value} {p0 : Nat} (ht : τ.1 p0 = 11) (hs : st.length ≤ 4) : AW (d + 1) 279 1788 [x0, x1, x2, x3] (.ref p0 :: st) σ ρ g τ Q = AW d 162 0 [.ref p0] [] σ ρ g τ (fun r9 σ ρ g τ => AW (d + 1) 279 1791 [x0, x1, x2, x3] (r9.toList ++ st) σ ρ g τ Q) := aw_cv m279 d279_1788 rfl m162 rfl rfl (by decide) en162 ok162 rfl ht hs
theorem d279_1791 : decode cL_law 1791 = .ok (.aload_n 2, 1) := by decide +kernel
theorem s279_1791 {d : Nat} {st : List Value} {σ : am_I} {ρ : am_R} {g : am_J} {τ : am_T} {Q : am_Q} {x0 x1 x3 : Value} {v : Nat} : AW d 279 1791 [x0, x1, .ref v, x3] (st) σ ρ g τ Q = AW d 279 1792 [x0, x1, .ref v, x3] (.ref v :: st) σ ρ g τ Q := aw_lc m279 d279_1791 rfl rfl rfl
theorem d279_1792 : decode cL_law 1792 = .ok (.invokevirtual 196, 3) := by decide +kernel
theorem s279_1792 {d : Nat} {st : List Value} {σ : am_I} {ρ : am_R} {g : am_J} {τ : am_T} {Q : am_Q} {x0 x1 x2 x3 : Value} {p0 : Nat} (ht : τ.1 p0 = 12) (hs : st.length ≤ 4) : AW (d + 1) 279 1792 [x0, x1, x2, x3] (.ref p0 :: st) σ ρ g τ Q = AW d 267 0 [.ref p0] [] σ ρ g τ (fun r9 σ ρ g τ => AW (d + 1) 279 1795 [x0, x1, x2, x3] (r9.toList ++ st) σ ρ g τ Q) := aw_cv m279 d279_1792 rfl m267 rfl rfl (by decide) en267 ok267 rfl ht hs
theorem d279_1795 : decode cL_law 1795 = .ok (.if_icmp .eq 18, 3) := by decide +kernel
theorem s279_1795 {d : Nat} {st : List Value} {σ : am_I} {ρ : am_R} {g : am_J} {τ : am_T} {Q : am_Q} {x0 x1 x2 x3 : Value} {v w : Int32} : AW d 279 1795 [x0, x1, x2, x3] (.int w :: .int v :: st) σ ρ g τ Q = if v = w then AW d 279 1813 [x0, x1, x2, x3] (st) σ ρ g τ Q else AW d 279 1798 [x0, x1, x2, x3] (st) σ ρ g τ Q := aw_br m279 d279_1795 rfl rfl rfl
theorem d279_1798 : decode cL_law 1798 = .ok (.iconst 0, 1) := by decide +kernel
theorem s279_1798 {d : Nat} {st : List Value} {σ : am_I} {ρ : am_R} {g : am_J} {τ : am_T} {Q : am_Q} {x0 x1 x2 x3 : Value} : AW d 279 1798 [x0, x1, x2, x3] (st) σ ρ g τ Q = AW d 279 1799 [x0, x1, x2, x3] (.int 0 :: st) σ ρ g τ Q := aw_lc m279 d279_1798 rfl rfl rfl
theorem d279_1799 : decode cL_law 1799 = .ok (.ireturn, 1) := by decide +kernel
theorem s279_1799 {d : Nat} {σ : am_I} {ρ : am_R} {g : am_J} {τ : am_T} {Q : am_Q} {x0 x1 x2 x3 : Value} {v : Int32} (hv : am_b01 v = true) : AW d 279 1799 [x0, x1, x2, x3] ([.int v]) σ ρ g τ Q = Q (some (.int v)) σ ρ g τ := aw_rz m279 d279_1799 rfl hv
theorem d279_1800 : decode cL_law 1800 = .ok (.aload_n 1, 1) := by decide +kernel
theorem s279_1800 {d : Nat} {st : List Value} {σ : am_I} {ρ : am_R} {g : am_J} {τ : am_T} {Q : am_Q} {x0 x2 x3 : Value} {v : Nat} : AW d 279 1800 [x0, .ref v, x2, x3] (st) σ ρ g τ Q = AW d 279 1801 [x0, .ref v, x2, x3] (.ref v :: st) σ ρ g τ Q := aw_lc m279 d279_1800 rfl rfl rfl
theorem d279_1801 : decode cL_law 1801 = .ok (.invokevirtual 197, 3) := by decide +kernel
theorem s279_1801 {d : Nat} {st : List Value} {σ : am_I} {ρ : am_R} {g : am_J} {τ : am_T} {Q : am_Q} {x0 x1 x2 x3 : Value} {p0 : Nat} (ht : τ.1 p0 = 11) (hs : st.length ≤ 4) : AW (d + 1) 279 1801 [x0, x1, x2, x3] (.ref p0 :: st) σ ρ g τ Q = AW d 163 0 [.ref p0] [] σ ρ g τ (fun r9 σ ρ g τ => AW (d + 1) 279 1804 [x0, x1, x2, x3] (r9.toList ++ st) σ ρ g τ Q) := aw_cv m279 d279_1801 rfl m163 rfl rfl (by decide) en163 ok163 rfl ht hs
theorem d279_1804 : decode cL_law 1804 = .ok (.aload_n 2, 1) := by decide +kernel
theorem s279_1804 {d : Nat} {st : List Value} {σ : am_I} {ρ : am_R} {g : am_J} {τ : am_T} {Q : am_Q} {x0 x1 x3 : Value} {v : Nat} : AW d 279 1804 [x0, x1, .ref v, x3] (st) σ ρ g τ Q = AW d 279 1805 [x0, x1, .ref v, x3] (.ref v :: st) σ ρ g τ Q := aw_lc m279 d279_1804 rfl rfl rfl
theorem d279_1805 : decode cL_law 1805 = .ok (.invokevirtual 200, 3) := by decide +kernel
theorem s279_1805 {d : Nat} {st : List Value} {σ : am_I} {ρ : am_R} {g : am_J} {τ : am_T} {Q : am_Q} {x0 x1 x2 x3 : Value} {p0 : Nat} (ht : τ.1 p0 = 12) (hs : st.length ≤ 4) : AW (d + 1) 279 1805 [x0, x1, x2, x3] (.ref p0 :: st) σ ρ g τ Q = AW d 268 0 [.ref p0] [] σ ρ g τ (fun r9 σ ρ g τ => AW (d + 1) 279 1808 [x0, x1, x2, x3] (r9.toList ++ st) σ ρ g τ Q) := aw_cv m279 d279_1805 rfl m268 rfl rfl (by decide) en268 ok268 rfl ht hs
theorem d279_1808 : decode cL_law 1808 = .ok (.if_icmp .eq 5, 3) := by decide +kernel
theorem s279_1808 {d : Nat} {st : List Value} {σ : am_I} {ρ : am_R} {g : am_J} {τ : am_T} {Q : am_Q} {x0 x1 x2 x3 : Value} {v w : Int32} : AW d 279 1808 [x0, x1, x2, x3] (.int w :: .int v :: st) σ ρ g τ Q = if v = w then AW d 279 1813 [x0, x1, x2, x3] (st) σ ρ g τ Q else AW d 279 1811 [x0, x1, x2, x3] (st) σ ρ g τ Q := aw_br m279 d279_1808 rfl rfl rfl
theorem d279_1811 : decode cL_law 1811 = .ok (.iconst 0, 1) := by decide +kernel
theorem s279_1811 {d : Nat} {st : List Value} {σ : am_I} {ρ : am_R} {g : am_J} {τ : am_T} {Q : am_Q} {x0 x1 x2 x3 : Value} : AW d 279 1811 [x0, x1, x2, x3] (st) σ ρ g τ Q = AW d 279 1812 [x0, x1, x2, x3] (.int 0 :: st) σ ρ g τ Q := aw_lc m279 d279_1811 rfl rfl rfl
theorem d279_1812 : decode cL_law 1812 = .ok (.ireturn, 1) := by decide +kernel
theorem s279_1812 {d : Nat} {σ : am_I} {ρ : am_R} {g : am_J} {τ : am_T} {Q : am_Q} {x0 x1 x2 x3 : Value} {v : Int32} (hv : am_b01 v = true) : AW d 279 1812 [x0, x1, x2, x3] ([.int v]) σ ρ g τ Q = Q (some (.int v)) σ ρ g τ := aw_rz m279 d279_1812 rfl hv
theorem d279_1813 : decode cL_law 1813 = .ok (.iinc 3 5, 3) := by decide +kernel
theorem s279_1813r {d : Nat} {st : List Value} {σ : am_I} {ρ : am_R} {g : am_J} {τ : am_T} {Q : am_Q} {x0 x1 : Value} {v : Int32} {u : Nat} : AW d 279 1813 [x0, x1, .ref u, .int v] (st) σ ρ g τ Q = AW d 279 1816 [x0, x1, .ref u, .int (v + 5)] (st) σ ρ g τ Q := aw_lc m279 d279_1813 rfl rfl rfl
theorem d279_1816 : decode cL_law 1816 = .ok (.goto (-1798), 3) := by decide +kernel
theorem s279_1816 {d : Nat} {st : List Value} {σ : am_I} {ρ : am_R} {g : am_J} {τ : am_T} {Q : am_Q} {x0 x1 x2 x3 : Value} : AW d 279 1816 [x0, x1, x2, x3] (st) σ ρ g τ Q = AW d 279 18 [x0, x1, x2, x3] (st) σ ρ g τ Q := aw_lc m279 d279_1816 rfl rfl rfl
theorem d279_1819 : decode cL_law 1819 = .ok (.iconst 1, 1) := by decide +kernel
theorem s279_1819 {d : Nat} {st : List Value} {σ : am_I} {ρ : am_R} {g : am_J} {τ : am_T} {Q : am_Q} {x0 x1 x2 x3 : Value} : AW d 279 1819 [x0, x1, x2, x3] (st) σ ρ g τ Q = AW d 279 1820 [x0, x1, x2, x3] (.int 1 :: st) σ ρ g τ Q := aw_lc m279 d279_1819 rfl rfl rfl
theorem d279_1820 : decode cL_law 1820 = .ok (.ireturn, 1) := by decide +kernel
theorem s279_1820 {d : Nat} {σ : am_I} {ρ : am_R} {g : am_J} {τ : am_T} {Q : am_Q} {x0 x1 x2 x3 : Value} {v : Int32} (hv : am_b01 v = true) : AW d 279 1820 [x0, x1, x2, x3] ([.int v]) σ ρ g τ Q = Q (some (.int v)) σ ρ g τ := aw_rz m279 d279_1820 rfl hv
