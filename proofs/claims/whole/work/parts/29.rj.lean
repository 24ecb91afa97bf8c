/-! step rows: methods 269 to 278 -/
theorem d269_0 : decode cJ0_length_8abf5 0 = .ok (.aload_n 0, 1) := by decide +kernel
theorem s269_0 {d : Nat} {st : List Value} {σ : am_I} {ρ : am_R} {g : am_J} {τ : am_T} {Q : am_Q} {v : Nat} : AW d 269 0 [.ref v] (st) σ ρ g τ Q = AW d 269 1 [.ref v] (.ref v :: st) σ ρ g τ Q := aw_lc m269 d269_0 rfl rfl rfl
theorem d269_1 : decode cJ0_length_8abf5 1 = .ok (.getfield 9, 3) := by decide +kernel
theorem s269_1 {d : Nat} {st : List Value} {σ : am_I} {ρ : am_R} {g : am_J} {τ : am_T} {Q : am_Q} {x0 : Value} {a : Nat} (ht : τ.1 a = 13) : AW d 269 1 [x0] (.ref a :: st) σ ρ g τ Q = AW d 269 4 [x0] (.ref (a + 38) :: st) σ ρ g τ Q := aw_sv m269 d269_1 rfl rfl ht
theorem d269_4 : decode cJ0_length_8abf5 4 = .ok (.arraylength, 1) := by decide +kernel
theorem s269_4 {d : Nat} {st : List Value} {σ : am_I} {ρ : am_R} {g : am_J} {τ : am_T} {Q : am_Q} {x0 : Value} {a : Nat} (ht : 14 ≤ τ.1 a ∧ τ.1 a ≤ 22) : AW d 269 4 [x0] (.ref a :: st) σ ρ g τ Q = AW d 269 5 [x0] (.int (nI (τ.2.1 a)) :: st) σ ρ g τ Q := aw_len m269 d269_4 rfl ht
theorem d269_5 : decode cJ0_length_8abf5 5 = .ok (.aload_n 0, 1) := by decide +kernel
theorem s269_5 {d : Nat} {st : List Value} {σ : am_I} {ρ : am_R} {g : am_J} {τ : am_T} {Q : am_Q} {v : Nat} : AW d 269 5 [.ref v] (st) σ ρ g τ Q = AW d 269 6 [.ref v] (.ref v :: st) σ ρ g τ Q := aw_lc m269 d269_5 rfl rfl rfl
theorem d269_6 : decode cJ0_length_8abf5 6 = .ok (.invokevirtual 335, 3) := by decide +kernel
theorem s269_6 {d : Nat} {st : List Value} {σ : am_I} {ρ : am_R} {g : am_J} {τ : am_T} {Q : am_Q} {x0 : Value} {p0 : Nat} (ht : τ.1 p0 = 13) (hs : st.length ≤ 4) : AW (d + 1) 269 6 [x0] (.ref p0 :: st) σ ρ g τ Q = AW d 271 0 [.ref p0] [] σ ρ g τ (fun r9 σ ρ g τ => AW (d + 1) 269 9 [x0] (r9.toList ++ st) σ ρ g τ Q) := aw_cv m269 d269_6 rfl m271 rfl rfl (by decide) en271 ok271 rfl ht hs
theorem d269_9 : decode cJ0_length_8abf5 9 = .ok (.ishr, 1) := by decide +kernel
theorem s269_9 {d : Nat} {st : List Value} {σ : am_I} {ρ : am_R} {g : am_J} {τ : am_T} {Q : am_Q} {x0 : Value} {v w : Int32} : AW d 269 9 [x0] (.int w :: .int v :: st) σ ρ g τ Q = AW d 269 10 [x0] (.int (v >>> (w &&& 31)) :: st) σ ρ g τ Q := aw_lc m269 d269_9 rfl rfl rfl
theorem d269_10 : decode cJ0_length_8abf5 10 = .ok (.ireturn, 1) := by decide +kernel
theorem s269_10 {d : Nat} {σ : am_I} {ρ : am_R} {g : am_J} {τ : am_T} {Q : am_Q} {x0 : Value} {v : Int32} : AW d 269 10 [x0] ([.int v]) σ ρ g τ Q = Q (some (.int v)) σ ρ g τ := aw_ri m269 d269_10 rfl
theorem d270_0 : decode cJ0_charAt_5068e 0 = .ok (.aload_n 0, 1) := by decide +kernel
theorem s270_0 {d : Nat} {st : List Value} {σ : am_I} {ρ : am_R} {g : am_J} {τ : am_T} {Q : am_Q} {x1 : Value} {v : Nat} : AW d 270 0 [.ref v, x1] (st) σ ρ g τ Q = AW d 270 1 [.ref v, x1] (.ref v :: st) σ ρ g τ Q := aw_lc m270 d270_0 rfl rfl rfl
theorem d270_1 : decode cJ0_charAt_5068e 1 = .ok (.invokevirtual 492, 3) := by decide +kernel
theorem s270_1 {d : Nat} {st : List Value} {σ : am_I} {ρ : am_R} {g : am_J} {τ : am_T} {Q : am_Q} {x0 x1 : Value} {p0 : Nat} (ht : τ.1 p0 = 13) (hs : st.length ≤ 4) : AW (d + 1) 270 1 [x0, x1] (.ref p0 :: st) σ ρ g τ Q = AW d 272 0 [.ref p0] [] σ ρ g τ (fun r9 σ ρ g τ => AW (d + 1) 270 4 [x0, x1] (r9.toList ++ st) σ ρ g τ Q) := aw_cv m270 d270_1 rfl m272 rfl rfl (by decide) en272 ok272 rfl ht hs
theorem d270_4 : decode cJ0_charAt_5068e 4 = .ok (.ifCond .eq 12, 3) := by decide +kernel
theorem s270_4 {d : Nat} {st : List Value} {σ : am_I} {ρ : am_R} {g : am_J} {τ : am_T} {Q : am_Q} {x0 x1 : Value} {v : Int32} : AW d 270 4 [x0, x1] (.int v :: st) σ ρ g τ Q = if v = 0 then AW d 270 16 [x0, x1] (st) σ ρ g τ Q else AW d 270 7 [x0, x1] (st) σ ρ g τ Q := aw_br m270 d270_4 rfl rfl rfl
theorem d270_7 : decode cJ0_charAt_5068e 7 = .ok (.aload_n 0, 1) := by decide +kernel
theorem s270_7 {d : Nat} {st : List Value} {σ : am_I} {ρ : am_R} {g : am_J} {τ : am_T} {Q : am_Q} {x1 : Value} {v : Nat} : AW d 270 7 [.ref v, x1] (st) σ ρ g τ Q = AW d 270 8 [.ref v, x1] (.ref v :: st) σ ρ g τ Q := aw_lc m270 d270_7 rfl rfl rfl
theorem d270_8 : decode cJ0_charAt_5068e 8 = .ok (.getfield 9, 3) := by decide +kernel
theorem s270_8 {d : Nat} {st : List Value} {σ : am_I} {ρ : am_R} {g : am_J} {τ : am_T} {Q : am_Q} {x0 x1 : Value} {a : Nat} (ht : τ.1 a = 13) : AW d 270 8 [x0, x1] (.ref a :: st) σ ρ g τ Q = AW d 270 11 [x0, x1] (.ref (a + 38) :: st) σ ρ g τ Q := aw_sv m270 d270_8 rfl rfl ht
theorem d270_11 : decode cJ0_charAt_5068e 11 = .ok (.iload_n 1, 1) := by decide +kernel
theorem s270_11 {d : Nat} {st : List Value} {σ : am_I} {ρ : am_R} {g : am_J} {τ : am_T} {Q : am_Q} {x0 : Value} {v : Int32} : AW d 270 11 [x0, .int v] (st) σ ρ g τ Q = AW d 270 12 [x0, .int v] (.int v :: st) σ ρ g τ Q := aw_lc m270 d270_11 rfl rfl rfl
theorem d270_12 : decode cJ0_charAt_5068e 12 = .ok (.invokestatic 495, 3) := by decide +kernel
theorem s270_12 {d : Nat} {st : List Value} {σ : am_I} {ρ : am_R} {g : am_J} {τ : am_T} {Q : am_Q} {x0 x1 : Value} {p0 : Nat} {p1 : Int32} (hs : st.length ≤ 4) : AW (d + 1) 270 12 [x0, x1] (.int p1 :: .ref p0 :: st) σ ρ g τ Q = AW d 274 0 [.ref p0, .int p1] [] σ ρ g τ (fun r9 σ ρ g τ => AW (d + 1) 270 15 [x0, x1] (r9.toList ++ st) σ ρ g τ Q) := aw_cs m270 d270_12 rfl (by simp only [List.length_cons]; omega) rfl rfl en274 ok274 rfl hs
theorem d270_15 : decode cJ0_charAt_5068e 15 = .ok (.ireturn, 1) := by decide +kernel
theorem s270_15 {d : Nat} {σ : am_I} {ρ : am_R} {g : am_J} {τ : am_T} {Q : am_Q} {x0 x1 : Value} {v : Int32} (hv : decide (narrow .char (.int v) = .int v) = true) : AW d 270 15 [x0, x1] ([.int v]) σ ρ g τ Q = Q (some (.int v)) σ ρ g τ := aw_rch m270 d270_15 rfl hv
theorem d270_16 : decode cJ0_charAt_5068e 16 = .ok (.aload_n 0, 1) := by decide +kernel
theorem s270_16 {d : Nat} {st : List Value} {σ : am_I} {ρ : am_R} {g : am_J} {τ : am_T} {Q : am_Q} {x1 : Value} {v : Nat} : AW d 270 16 [.ref v, x1] (st) σ ρ g τ Q = AW d 270 17 [.ref v, x1] (.ref v :: st) σ ρ g τ Q := aw_lc m270 d270_16 rfl rfl rfl
theorem d270_17 : decode cJ0_charAt_5068e 17 = .ok (.getfield 9, 3) := by decide +kernel
theorem s270_17 {d : Nat} {st : List Value} {σ : am_I} {ρ : am_R} {g : am_J} {τ : am_T} {Q : am_Q} {x0 x1 : Value} {a : Nat} (ht : τ.1 a = 13) : AW d 270 17 [x0, x1] (.ref a :: st) σ ρ g τ Q = AW d 270 20 [x0, x1] (.ref (a + 38) :: st) σ ρ g τ Q := aw_sv m270 d270_17 rfl rfl ht
theorem d270_20 : decode cJ0_charAt_5068e 20 = .ok (.iload_n 1, 1) := by decide +kernel
theorem s270_20 {d : Nat} {st : List Value} {σ : am_I} {ρ : am_R} {g : am_J} {τ : am_T} {Q : am_Q} {x0 : Value} {v : Int32} : AW d 270 20 [x0, .int v] (st) σ ρ g τ Q = AW d 270 21 [x0, .int v] (.int v :: st) σ ρ g τ Q := aw_lc m270 d270_20 rfl rfl rfl
theorem d270_24 : decode cJ0_charAt_5068e 24 = .ok (.ireturn, 1) := by decide +kernel
theorem s270_24 {d : Nat} {σ : am_I} {ρ : am_R} {g : am_J} {τ : am_T} {Q : am_Q} {x0 x1 : Value} {v : Int32} (hv : decide (narrow .char (.int v) = .int v) = true) : AW d 270 24 [x0, x1] ([.int v]) σ ρ g τ Q = Q (some (.int v)) σ ρ g τ := aw_rch m270 d270_24 rfl hv
theorem d271_0 : decode cJ0_coder_7d493 0 = .ok (.getstatic 38, 3) := by decide +kernel
theorem s271_0 {d : Nat} {st : List Value} {σ : am_I} {ρ : am_R} {g : am_J} {τ : am_T} {Q : am_Q} {x0 : Value} : AW d 271 0 [x0] (st) σ ρ g τ Q = AW d 271 3 [x0] (.int 1 :: st) σ ρ g τ Q := aw_gsc m271 d271_0 rfl rfl
theorem d271_3 : decode cJ0_coder_7d493 3 = .ok (.ifCond .eq 10, 3) := by decide +kernel
theorem s271_3 {d : Nat} {st : List Value} {σ : am_I} {ρ : am_R} {g : am_J} {τ : am_T} {Q : am_Q} {x0 : Value} {v : Int32} : AW d 271 3 [x0] (.int v :: st) σ ρ g τ Q = if v = 0 then AW d 271 13 [x0] (st) σ ρ g τ Q else AW d 271 6 [x0] (st) σ ρ g τ Q := aw_br m271 d271_3 rfl rfl rfl
theorem d271_6 : decode cJ0_coder_7d493 6 = .ok (.aload_n 0, 1) := by decide +kernel
theorem s271_6 {d : Nat} {st : List Value} {σ : am_I} {ρ : am_R} {g : am_J} {τ : am_T} {Q : am_Q} {v : Nat} : AW d 271 6 [.ref v] (st) σ ρ g τ Q = AW d 271 7 [.ref v] (.ref v :: st) σ ρ g τ Q := aw_lc m271 d271_6 rfl rfl rfl
theorem d271_7 : decode cJ0_coder_7d493 7 = .ok (.getfield 15, 3) := by decide +kernel
theorem s271_7 {d : Nat} {st : List Value} {σ : am_I} {ρ : am_R} {g : am_J} {τ : am_T} {Q : am_Q} {x0 : Value} {a : Nat} (ht : τ.1 a = 13) : AW d 271 7 [x0] (.ref a :: st) σ ρ g τ Q = AW d 271 10 [x0] (.int 0 :: st) σ ρ g τ Q := aw_sc m271 d271_7 rfl rfl ht
theorem d271_10 : decode cJ0_coder_7d493 10 = .ok (.goto 4, 3) := by decide +kernel
theorem s271_10 {d : Nat} {st : List Value} {σ : am_I} {ρ : am_R} {g : am_J} {τ : am_T} {Q : am_Q} {x0 : Value} : AW d 271 10 [x0] (st) σ ρ g τ Q = AW d 271 14 [x0] (st) σ ρ g τ Q := aw_lc m271 d271_10 rfl rfl rfl
theorem d271_13 : decode cJ0_coder_7d493 13 = .ok (.iconst 1, 1) := by decide +kernel
theorem s271_13 {d : Nat} {st : List Value} {σ : am_I} {ρ : am_R} {g : am_J} {τ : am_T} {Q : am_Q} {x0 : Value} : AW d 271 13 [x0] (st) σ ρ g τ Q = AW d 271 14 [x0] (.int 1 :: st) σ ρ g τ Q := aw_lc m271 d271_13 rfl rfl rfl
theorem d271_14 : decode cJ0_coder_7d493 14 = .ok (.ireturn, 1) := by decide +kernel
theorem s271_14 {d : Nat} {σ : am_I} {ρ : am_R} {g : am_J} {τ : am_T} {Q : am_Q} {x0 : Value} : AW d 271 14 [x0] ([.int 0]) σ ρ g τ Q = Q (some (.int 0)) σ ρ g τ := aw_rb m271 d271_14 rfl
theorem d272_0 : decode cJ0_isLatin1_aae02 0 = .ok (.getstatic 38, 3) := by decide +kernel
theorem s272_0 {d : Nat} {st : List Value} {σ : am_I} {ρ : am_R} {g : am_J} {τ : am_T} {Q : am_Q} {x0 : Value} : AW d 272 0 [x0] (st) σ ρ g τ Q = AW d 272 3 [x0] (.int 1 :: st) σ ρ g τ Q := aw_gsc m272 d272_0 rfl rfl
theorem d272_3 : decode cJ0_isLatin1_aae02 3 = .ok (.ifCond .eq 14, 3) := by decide +kernel
theorem s272_3 {d : Nat} {st : List Value} {σ : am_I} {ρ : am_R} {g : am_J} {τ : am_T} {Q : am_Q} {x0 : Value} {v : Int32} : AW d 272 3 [x0] (.int v :: st) σ ρ g τ Q = if v = 0 then AW d 272 17 [x0] (st) σ ρ g τ Q else AW d 272 6 [x0] (st) σ ρ g τ Q := aw_br m272 d272_3 rfl rfl rfl
theorem d272_6 : decode cJ0_isLatin1_aae02 6 = .ok (.aload_n 0, 1) := by decide +kernel
theorem s272_6 {d : Nat} {st : List Value} {σ : am_I} {ρ : am_R} {g : am_J} {τ : am_T} {Q : am_Q} {v : Nat} : AW d 272 6 [.ref v] (st) σ ρ g τ Q = AW d 272 7 [.ref v] (.ref v :: st) σ ρ g τ Q := aw_lc m272 d272_6 rfl rfl rfl
theorem d272_7 : decode cJ0_isLatin1_aae02 7 = .ok (.getfield 15, 3) := by decide +kernel
theorem s272_7 {d : Nat} {st : List Value} {σ : am_I} {ρ : am_R} {g : am_J} {τ : am_T} {Q : am_Q} {x0 : Value} {a : Nat} (ht : τ.1 a = 13) : AW d 272 7 [x0] (.ref a :: st) σ ρ g τ Q = AW d 272 10 [x0] (.int 0 :: st) σ ρ g τ Q := aw_sc m272 d272_7 rfl rfl ht
theorem d272_10 : decode cJ0_isLatin1_aae02 10 = .ok (.ifCond .ne 7, 3) := by decide +kernel
theorem s272_10 {d : Nat} {st : List Value} {σ : am_I} {ρ : am_R} {g : am_J} {τ : am_T} {Q : am_Q} {x0 : Value} {v : Int32} : AW d 272 10 [x0] (.int v :: st) σ ρ g τ Q = if ¬ v = 0 then AW d 272 17 [x0] (st) σ ρ g τ Q else AW d 272 13 [x0] (st) σ ρ g τ Q := aw_br m272 d272_10 rfl rfl rfl
theorem d272_13 : decode cJ0_isLatin1_aae02 13 = .ok (.iconst 1, 1) := by decide +kernel
theorem s272_13 {d : Nat} {st : List Value} {σ : am_I} {ρ : am_R} {g : am_J} {τ : am_T} {Q : am_Q} {x0 : Value} : AW d 272 13 [x0] (st) σ ρ g τ Q = AW d 272 14 [x0] (.int 1 :: st) σ ρ g τ Q := aw_lc m272 d272_13 rfl rfl rfl
theorem d272_14 : decode cJ0_isLatin1_aae02 14 = .ok (.goto 4, 3) := by decide +kernel
theorem s272_14 {d : Nat} {st : List Value} {σ : am_I} {ρ : am_R} {g : am_J} {τ : am_T} {Q : am_Q} {x0 : Value} : AW d 272 14 [x0] (st) σ ρ g τ Q = AW d 272 18 [x0] (st) σ ρ g τ Q := aw_lc m272 d272_14 rfl rfl rfl
theorem d272_17 : decode cJ0_isLatin1_aae02 17 = .ok (.iconst 0, 1) := by decide +kernel
theorem s272_17 {d : Nat} {st : List Value} {σ : am_I} {ρ : am_R} {g : am_J} {τ : am_T} {Q : am_Q} {x0 : Value} : AW d 272 17 [x0] (st) σ ρ g τ Q = AW d 272 18 [x0] (.int 0 :: st) σ ρ g τ Q := aw_lc m272 d272_17 rfl rfl rfl
theorem d272_18 : decode cJ0_isLatin1_aae02 18 = .ok (.ireturn, 1) := by decide +kernel
theorem s272_18 {d : Nat} {σ : am_I} {ρ : am_R} {g : am_J} {τ : am_T} {Q : am_Q} {x0 : Value} {v : Int32} (hv : am_b01 v = true) : AW d 272 18 [x0] ([.int v]) σ ρ g τ Q = Q (some (.int v)) σ ρ g τ := aw_rz m272 d272_18 rfl hv
theorem d273_0 : decode cJ0_checkIndex_df160 0 = .ok (.iload_n 0, 1) := by decide +kernel
theorem s273_0 {d : Nat} {st : List Value} {σ : am_I} {ρ : am_R} {g : am_J} {τ : am_T} {Q : am_Q} {x1 : Value} {v : Int32} : AW d 273 0 [.int v, x1] (st) σ ρ g τ Q = AW d 273 1 [.int v, x1] (.int v :: st) σ ρ g τ Q := aw_lc m273 d273_0 rfl rfl rfl
theorem d273_1 : decode cJ0_checkIndex_df160 1 = .ok (.iload_n 1, 1) := by decide +kernel
theorem s273_1 {d : Nat} {st : List Value} {σ : am_I} {ρ : am_R} {g : am_J} {τ : am_T} {Q : am_Q} {x0 : Value} {v : Int32} : AW d 273 1 [x0, .int v] (st) σ ρ g τ Q = AW d 273 2 [x0, .int v] (.int v :: st) σ ρ g τ Q := aw_lc m273 d273_1 rfl rfl rfl
theorem d273_2 : decode cJ0_checkIndex_df160 2 = .ok (.getstatic 1053, 3) := by decide +kernel
theorem s273_2 {d : Nat} {st : List Value} {σ : am_I} {ρ : am_R} {g : am_J} {τ : am_T} {Q : am_Q} {x0 x1 : Value} : AW d 273 2 [x0, x1] (st) σ ρ g τ Q = AW d 273 5 [x0, x1] (.float 1 :: st) σ ρ g τ Q := aw_gsf m273 d273_2 rfl rfl
theorem d273_5 : decode cJ0_checkIndex_df160 5 = .ok (.invokestatic 1059, 3) := by decide +kernel
theorem s273_5 {d : Nat} {st : List Value} {σ : am_I} {ρ : am_R} {g : am_J} {τ : am_T} {Q : am_Q} {x0 x1 : Value} {p0 : Int32} {p1 : Int32} {p2 : Nat} (hs : st.length ≤ 4) : AW (d + 1) 273 5 [x0, x1] (.ref p2 :: .int p1 :: .int p0 :: st) σ ρ g τ Q = AW d 278 0 [.int p0, .int p1, .ref p2] [] σ ρ g τ (fun r9 σ ρ g τ => AW (d + 1) 273 8 [x0, x1] (r9.toList ++ st) σ ρ g τ Q) := aw_cs m273 d273_5 rfl (by simp only [List.length_cons]; omega) rfl rfl en278 ok278 rfl hs
theorem d273_8 : decode cJ0_checkIndex_df160 8 = .ok (.pop, 1) := by decide +kernel
theorem s273_8 {d : Nat} {st : List Value} {σ : am_I} {ρ : am_R} {g : am_J} {τ : am_T} {Q : am_Q} {x0 x1 : Value} {v : Int32} : AW d 273 8 [x0, x1] (.int v :: st) σ ρ g τ Q = AW d 273 9 [x0, x1] (st) σ ρ g τ Q := aw_lc m273 d273_8 rfl rfl rfl
theorem d273_9 : decode cJ0_checkIndex_df160 9 = .ok (.return_, 1) := by decide +kernel
theorem s273_9 {d : Nat} {σ : am_I} {ρ : am_R} {g : am_J} {τ : am_T} {Q : am_Q} {x0 x1 : Value} : AW d 273 9 [x0, x1] ([]) σ ρ g τ Q = Q none σ ρ g τ := aw_rv m273 d273_9 rfl
theorem d274_0 : decode cJ1_charAt_3b067 0 = .ok (.iload_n 1, 1) := by decide +kernel
theorem s274_0 {d : Nat} {st : List Value} {σ : am_I} {ρ : am_R} {g : am_J} {τ : am_T} {Q : am_Q} {x0 : Value} {v : Int32} : AW d 274 0 [x0, .int v] (st) σ ρ g τ Q = AW d 274 1 [x0, .int v] (.int v :: st) σ ρ g τ Q := aw_lc m274 d274_0 rfl rfl rfl
theorem d274_1 : decode cJ1_charAt_3b067 1 = .ok (.aload_n 0, 1) := by decide +kernel
theorem s274_1 {d : Nat} {st : List Value} {σ : am_I} {ρ : am_R} {g : am_J} {τ : am_T} {Q : am_Q} {x1 : Value} {v : Nat} : AW d 274 1 [.ref v, x1] (st) σ ρ g τ Q = AW d 274 2 [.ref v, x1] (.ref v :: st) σ ρ g τ Q := aw_lc m274 d274_1 rfl rfl rfl
theorem d274_2 : decode cJ1_charAt_3b067 2 = .ok (.arraylength, 1) := by decide +kernel
theorem s274_2 {d : Nat} {st : List Value} {σ : am_I} {ρ : am_R} {g : am_J} {τ : am_T} {Q : am_Q} {x0 x1 : Value} {a : Nat} (ht : 14 ≤ τ.1 a ∧ τ.1 a ≤ 22) : AW d 274 2 [x0, x1] (.ref a :: st) σ ρ g τ Q = AW d 274 3 [x0, x1] (.int (nI (τ.2.1 a)) :: st) σ ρ g τ Q := aw_len m274 d274_2 rfl ht
theorem d274_3 : decode cJ1_charAt_3b067 3 = .ok (.invokestatic 9, 3) := by decide +kernel
theorem s274_3 {d : Nat} {st : List Value} {σ : am_I} {ρ : am_R} {g : am_J} {τ : am_T} {Q : am_Q} {x0 x1 : Value} {p0 : Int32} {p1 : Int32} (hs : st.length ≤ 4) : AW (d + 1) 274 3 [x0, x1] (.int p1 :: .int p0 :: st) σ ρ g τ Q = AW d 273 0 [.int p0, .int p1] [] σ ρ g τ (fun r9 σ ρ g τ => AW (d + 1) 274 6 [x0, x1] (r9.toList ++ st) σ ρ g τ Q) := aw_cs m274 d274_3 rfl (by simp only [List.length_cons]; omega) rfl rfl en273 ok273 rfl hs
theorem d274_6 : decode cJ1_charAt_3b067 6 = .ok (.aload_n 0, 1) := by decide +kernel
theorem s274_6 {d : Nat} {st : List Value} {σ : am_I} {ρ : am_R} {g : am_J} {τ : am_T} {Q : am_Q} {x1 : Value} {v : Nat} : AW d 274 6 [.ref v, x1] (st) σ ρ g τ Q = AW d 274 7 [.ref v, x1] (.ref v :: st) σ ρ g τ Q := aw_lc m274 d274_6 rfl rfl rfl
theorem d274_7 : decode cJ1_charAt_3b067 7 = .ok (.iload_n 1, 1) := by decide +kernel
theorem s274_7 {d : Nat} {st : List Value} {σ : am_I} {ρ : am_R} {g : am_J} {τ : am_T} {Q : am_Q} {x0 : Value} {v : Int32} : AW d 274 7 [x0, .int v] (st) σ ρ g τ Q = AW d 274 8 [x0, .int v] (.int v :: st) σ ρ g τ Q := aw_lc m274 d274_7 rfl rfl rfl
theorem d274_8 : decode cJ1_charAt_3b067 8 = .ok (.baload, 1) := by decide +kernel
theorem s274_8 {d : Nat} {st : List Value} {σ : am_I} {ρ : am_R} {g : am_J} {τ : am_T} {Q : am_Q} {x0 x1 : Value} {a : Nat} {j : Int32} (ht : τ.1 a = 14 ∨ τ.1 a = 17) (hj : am_inb j (τ.2.1 a) = true) : AW d 274 8 [x0, x1] (.int j :: .ref a :: st) σ ρ g τ Q = AW d 274 9 [x0, x1] (.int (σ a j.toNatClampNeg) :: st) σ ρ g τ Q := aw_bal m274 d274_8 rfl ht hj
theorem d274_9 : decode cJ1_charAt_3b067 9 = .ok (.sipush 255, 3) := by decide +kernel
theorem s274_9 {d : Nat} {st : List Value} {σ : am_I} {ρ : am_R} {g : am_J} {τ : am_T} {Q : am_Q} {x0 x1 : Value} : AW d 274 9 [x0, x1] (st) σ ρ g τ Q = AW d 274 12 [x0, x1] (.int 255 :: st) σ ρ g τ Q := aw_lc m274 d274_9 rfl rfl rfl
theorem d274_12 : decode cJ1_charAt_3b067 12 = .ok (.iand, 1) := by decide +kernel
theorem s274_12 {d : Nat} {st : List Value} {σ : am_I} {ρ : am_R} {g : am_J} {τ : am_T} {Q : am_Q} {x0 x1 : Value} {v w : Int32} : AW d 274 12 [x0, x1] (.int w :: .int v :: st) σ ρ g τ Q = AW d 274 13 [x0, x1] (.int (v &&& w) :: st) σ ρ g τ Q := aw_lc m274 d274_12 rfl rfl rfl
theorem d274_13 : decode cJ1_charAt_3b067 13 = .ok (.i2c, 1) := by decide +kernel
theorem s274_13 {d : Nat} {st : List Value} {σ : am_I} {ρ : am_R} {g : am_J} {τ : am_T} {Q : am_Q} {x0 x1 : Value} {v : Int32} : AW d 274 13 [x0, x1] (.int v :: st) σ ρ g τ Q = AW d 274 14 [x0, x1] (.int (v.toUInt32 % 65536).toInt32 :: st) σ ρ g τ Q := aw_lc m274 d274_13 rfl rfl rfl
theorem d274_14 : decode cJ1_charAt_3b067 14 = .ok (.ireturn, 1) := by decide +kernel
theorem s274_14 {d : Nat} {σ : am_I} {ρ : am_R} {g : am_J} {τ : am_T} {Q : am_Q} {x0 x1 : Value} {v : Int32} (hv : decide (narrow .char (.int v) = .int v) = true) : AW d 274 14 [x0, x1] ([.int v]) σ ρ g τ Q = Q (some (.int v)) σ ρ g τ := aw_rch m274 d274_14 rfl hv
theorem d275_0 : decode cJ7_fill_53178 0 = .ok (.iconst 0, 1) := by decide +kernel
theorem s275_0 {d : Nat} {st : List Value} {σ : am_I} {ρ : am_R} {g : am_J} {τ : am_T} {Q : am_Q} {x0 x1 x2 x3 : Value} : AW d 275 0 [x0, x1, x2, x3] (st) σ ρ g τ Q = AW d 275 1 [x0, x1, x2, x3] (.int 0 :: st) σ ρ g τ Q := aw_lc m275 d275_0 rfl rfl rfl
theorem d275_1 : decode cJ7_fill_53178 1 = .ok (.istore_n 2, 1) := by decide +kernel
theorem s275_1 {d : Nat} {st : List Value} {σ : am_I} {ρ : am_R} {g : am_J} {τ : am_T} {Q : am_Q} {x0 x2 x3 : Value} {v : Int32} {u : Int32} : AW d 275 1 [x0, .int u, x2, x3] (.int v :: st) σ ρ g τ Q = AW d 275 2 [x0, .int u, .int v, x3] (st) σ ρ g τ Q := aw_lc m275 d275_1 rfl rfl rfl
theorem d275_2 : decode cJ7_fill_53178 2 = .ok (.aload_n 0, 1) := by decide +kernel
theorem s275_2 {d : Nat} {st : List Value} {σ : am_I} {ρ : am_R} {g : am_J} {τ : am_T} {Q : am_Q} {x1 x2 x3 : Value} {v : Nat} : AW d 275 2 [.ref v, x1, x2, x3] (st) σ ρ g τ Q = AW d 275 3 [.ref v, x1, x2, x3] (.ref v :: st) σ ρ g τ Q := aw_lc m275 d275_2 rfl rfl rfl
theorem d275_3 : decode cJ7_fill_53178 3 = .ok (.arraylength, 1) := by decide +kernel
theorem s275_3 {d : Nat} {st : List Value} {σ : am_I} {ρ : am_R} {g : am_J} {τ : am_T} {Q : am_Q} {x0 x1 x2 x3 : Value} {a : Nat} (ht : 14 ≤ τ.1 a ∧ τ.1 a ≤ 22) : AW d 275 3 [x0, x1, x2, x3] (.ref a :: st) σ ρ g τ Q = AW d 275 4 [x0, x1, x2, x3] (.int (nI (τ.2.1 a)) :: st) σ ρ g τ Q := aw_len m275 d275_3 rfl ht
theorem d275_4 : decode cJ7_fill_53178 4 = .ok (.istore_n 3, 1) := by decide +kernel
theorem s275_4 {d : Nat} {st : List Value} {σ : am_I} {ρ : am_R} {g : am_J} {τ : am_T} {Q : am_Q} {x0 x1 x3 : Value} {v : Int32} {u : Int32} : AW d 275 4 [x0, x1, .int u, x3] (.int v :: st) σ ρ g τ Q = AW d 275 5 [x0, x1, .int u, .int v] (st) σ ρ g τ Q := aw_lc m275 d275_4 rfl rfl rfl
theorem d275_5 : decode cJ7_fill_53178 5 = .ok (.iload_n 2, 1) := by decide +kernel
theorem s275_5 {d : Nat} {st : List Value} {σ : am_I} {ρ : am_R} {g : am_J} {τ : am_T} {Q : am_Q} {x0 x1 x3 : Value} {v : Int32} : AW d 275 5 [x0, x1, .int v, x3] (st) σ ρ g τ Q = AW d 275 6 [x0, x1, .int v, x3] (.int v :: st) σ ρ g τ Q := aw_lc m275 d275_5 rfl rfl rfl
theorem d275_6 : decode cJ7_fill_53178 6 = .ok (.iload_n 3, 1) := by decide +kernel
theorem s275_6 {d : Nat} {st : List Value} {σ : am_I} {ρ : am_R} {g : am_J} {τ : am_T} {Q : am_Q} {x0 x1 x2 : Value} {v : Int32} : AW d 275 6 [x0, x1, x2, .int v] (st) σ ρ g τ Q = AW d 275 7 [x0, x1, x2, .int v] (.int v :: st) σ ρ g τ Q := aw_lc m275 d275_6 rfl rfl rfl
theorem d275_7 : decode cJ7_fill_53178 7 = .ok (.if_icmp .ge 13, 3) := by decide +kernel
theorem s275_7 {d : Nat} {st : List Value} {σ : am_I} {ρ : am_R} {g : am_J} {τ : am_T} {Q : am_Q} {x0 x1 x2 x3 : Value} {v w : Int32} : AW d 275 7 [x0, x1, x2, x3] (.int w :: .int v :: st) σ ρ g τ Q = if w ≤ v then AW d 275 20 [x0, x1, x2, x3] (st) σ ρ g τ Q else AW d 275 10 [x0, x1, x2, x3] (st) σ ρ g τ Q := aw_br m275 d275_7 rfl rfl rfl
theorem d275_10 : decode cJ7_fill_53178 10 = .ok (.aload_n 0, 1) := by decide +kernel
theorem s275_10 {d : Nat} {st : List Value} {σ : am_I} {ρ : am_R} {g : am_J} {τ : am_T} {Q : am_Q} {x1 x2 x3 : Value} {v : Nat} : AW d 275 10 [.ref v, x1, x2, x3] (st) σ ρ g τ Q = AW d 275 11 [.ref v, x1, x2, x3] (.ref v :: st) σ ρ g τ Q := aw_lc m275 d275_10 rfl rfl rfl
theorem d275_11 : decode cJ7_fill_53178 11 = .ok (.iload_n 2, 1) := by decide +kernel
theorem s275_11 {d : Nat} {st : List Value} {σ : am_I} {ρ : am_R} {g : am_J} {τ : am_T} {Q : am_Q} {x0 x1 x3 : Value} {v : Int32} : AW d 275 11 [x0, x1, .int v, x3] (st) σ ρ g τ Q = AW d 275 12 [x0, x1, .int v, x3] (.int v :: st) σ ρ g τ Q := aw_lc m275 d275_11 rfl rfl rfl
theorem d275_12 : decode cJ7_fill_53178 12 = .ok (.iload_n 1, 1) := by decide +kernel
theorem s275_12 {d : Nat} {st : List Value} {σ : am_I} {ρ : am_R} {g : am_J} {τ : am_T} {Q : am_Q} {x0 x2 x3 : Value} {v : Int32} : AW d 275 12 [x0, .int v, x2, x3] (st) σ ρ g τ Q = AW d 275 13 [x0, .int v, x2, x3] (.int v :: st) σ ρ g τ Q := aw_lc m275 d275_12 rfl rfl rfl
theorem d275_13 : decode cJ7_fill_53178 13 = .ok (.iastore, 1) := by decide +kernel
theorem s275_13 {d : Nat} {st : List Value} {σ : am_I} {ρ : am_R} {g : am_J} {τ : am_T} {Q : am_Q} {x0 x1 x2 x3 : Value} {a : Nat} {j v : Int32} (ht : τ.1 a = 15) (ha : a < am_BG) (hj : am_inb j (τ.2.1 a) = true) : AW d 275 13 [x0, x1, x2, x3] (.int v :: .int j :: .ref a :: st) σ ρ g τ Q = AW d 275 14 [x0, x1, x2, x3] (st) (am_u σ a j.toNatClampNeg v) ρ g τ Q := aw_ias m275 d275_13 rfl ht ha hj
theorem d275_14 : decode cJ7_fill_53178 14 = .ok (.iinc 2 1, 3) := by decide +kernel
theorem s275_14 {d : Nat} {st : List Value} {σ : am_I} {ρ : am_R} {g : am_J} {τ : am_T} {Q : am_Q} {x0 x3 : Value} {v : Int32} {u : Int32} : AW d 275 14 [x0, .int u, .int v, x3] (st) σ ρ g τ Q = AW d 275 17 [x0, .int u, .int (v + 1), x3] (st) σ ρ g τ Q := aw_lc m275 d275_14 rfl rfl rfl
theorem d275_17 : decode cJ7_fill_53178 17 = .ok (.goto (-12), 3) := by decide +kernel
theorem s275_17 {d : Nat} {st : List Value} {σ : am_I} {ρ : am_R} {g : am_J} {τ : am_T} {Q : am_Q} {x0 x1 x2 x3 : Value} : AW d 275 17 [x0, x1, x2, x3] (st) σ ρ g τ Q = AW d 275 5 [x0, x1, x2, x3] (st) σ ρ g τ Q := aw_lc m275 d275_17 rfl rfl rfl
theorem d275_20 : decode cJ7_fill_53178 20 = .ok (.return_, 1) := by decide +kernel
theorem s275_20 {d : Nat} {σ : am_I} {ρ : am_R} {g : am_J} {τ : am_T} {Q : am_Q} {x0 x1 x2 x3 : Value} : AW d 275 20 [x0, x1, x2, x3] ([]) σ ρ g τ Q = Q none σ ρ g τ := aw_rv m275 d275_20 rfl
theorem d276_0 : decode cX6_forgetSeen 0 = .ok (.iconst 0, 1) := by decide +kernel
theorem s276_0 {d : Nat} {st : List Value} {σ : am_I} {ρ : am_R} {g : am_J} {τ : am_T} {Q : am_Q} {x0 x1 : Value} : AW d 276 0 [x0, x1] (st) σ ρ g τ Q = AW d 276 1 [x0, x1] (.int 0 :: st) σ ρ g τ Q := aw_lc m276 d276_0 rfl rfl rfl
theorem d276_1 : decode cX6_forgetSeen 1 = .ok (.istore_n 1, 1) := by decide +kernel
theorem s276_1r {d : Nat} {st : List Value} {σ : am_I} {ρ : am_R} {g : am_J} {τ : am_T} {Q : am_Q} {x1 : Value} {v : Int32} {u : Nat} : AW d 276 1 [.ref u, x1] (.int v :: st) σ ρ g τ Q = AW d 276 2 [.ref u, .int v] (st) σ ρ g τ Q := aw_lc m276 d276_1 rfl rfl rfl
theorem d276_2 : decode cX6_forgetSeen 2 = .ok (.iload_n 1, 1) := by decide +kernel
theorem s276_2 {d : Nat} {st : List Value} {σ : am_I} {ρ : am_R} {g : am_J} {τ : am_T} {Q : am_Q} {x0 : Value} {v : Int32} : AW d 276 2 [x0, .int v] (st) σ ρ g τ Q = AW d 276 3 [x0, .int v] (.int v :: st) σ ρ g τ Q := aw_lc m276 d276_2 rfl rfl rfl
theorem d276_3 : decode cX6_forgetSeen 3 = .ok (.bipush 20, 2) := by decide +kernel
theorem s276_3 {d : Nat} {st : List Value} {σ : am_I} {ρ : am_R} {g : am_J} {τ : am_T} {Q : am_Q} {x0 x1 : Value} : AW d 276 3 [x0, x1] (st) σ ρ g τ Q = AW d 276 5 [x0, x1] (.int 20 :: st) σ ρ g τ Q := aw_lc m276 d276_3 rfl rfl rfl
theorem d276_5 : decode cX6_forgetSeen 5 = .ok (.if_icmp .ge 16, 3) := by decide +kernel
theorem s276_5 {d : Nat} {st : List Value} {σ : am_I} {ρ : am_R} {g : am_J} {τ : am_T} {Q : am_Q} {x0 x1 : Value} {v w : Int32} : AW d 276 5 [x0, x1] (.int w :: .int v :: st) σ ρ g τ Q = if w ≤ v then AW d 276 21 [x0, x1] (st) σ ρ g τ Q else AW d 276 8 [x0, x1] (st) σ ρ g τ Q := aw_br m276 d276_5 rfl rfl rfl
theorem d276_8 : decode cX6_forgetSeen 8 = .ok (.aload_n 0, 1) := by decide +kernel
theorem s276_8 {d : Nat} {st : List Value} {σ : am_I} {ρ : am_R} {g : am_J} {τ : am_T} {Q : am_Q} {x1 : Value} {v : Nat} : AW d 276 8 [.ref v, x1] (st) σ ρ g τ Q = AW d 276 9 [.ref v, x1] (.ref v :: st) σ ρ g τ Q := aw_lc m276 d276_8 rfl rfl rfl
theorem d276_9 : decode cX6_forgetSeen 9 = .ok (.getfield 15, 3) := by decide +kernel
theorem s276_9 {d : Nat} {st : List Value} {σ : am_I} {ρ : am_R} {g : am_J} {τ : am_T} {Q : am_Q} {x0 x1 : Value} {a : Nat} (ht : τ.1 a = 6) : AW d 276 9 [x0, x1] (.ref a :: st) σ ρ g τ Q = AW d 276 12 [x0, x1] (va_rf (ρ a 1) :: st) σ ρ g τ Q := aw_gr m276 d276_9 rfl rfl rfl ht
theorem d276_12 : decode cX6_forgetSeen 12 = .ok (.iload_n 1, 1) := by decide +kernel
theorem s276_12 {d : Nat} {st : List Value} {σ : am_I} {ρ : am_R} {g : am_J} {τ : am_T} {Q : am_Q} {x0 : Value} {v : Int32} : AW d 276 12 [x0, .int v] (st) σ ρ g τ Q = AW d 276 13 [x0, .int v] (.int v :: st) σ ρ g τ Q := aw_lc m276 d276_12 rfl rfl rfl
theorem d276_13 : decode cX6_forgetSeen 13 = .ok (.iconst 0, 1) := by decide +kernel
theorem s276_13 {d : Nat} {st : List Value} {σ : am_I} {ρ : am_R} {g : am_J} {τ : am_T} {Q : am_Q} {x0 x1 : Value} : AW d 276 13 [x0, x1] (st) σ ρ g τ Q = AW d 276 14 [x0, x1] (.int 0 :: st) σ ρ g τ Q := aw_lc m276 d276_13 rfl rfl rfl
theorem d276_14 : decode cX6_forgetSeen 14 = .ok (.bastore, 1) := by decide +kernel
theorem s276_14 {d : Nat} {st : List Value} {σ : am_I} {ρ : am_R} {g : am_J} {τ : am_T} {Q : am_Q} {x0 x1 : Value} {a : Nat} {j v : Int32} (ht : τ.1 a = 17) (ha : a < am_BG) (hj : am_inb j (τ.2.1 a) = true) (hv : am_b01 v = true) : AW d 276 14 [x0, x1] (.int v :: .int j :: .ref a :: st) σ ρ g τ Q = AW d 276 15 [x0, x1] (st) (am_u σ a j.toNatClampNeg v) ρ g τ Q := aw_zas m276 d276_14 rfl ht ha hj hv
theorem d276_15 : decode cX6_forgetSeen 15 = .ok (.iinc 1 1, 3) := by decide +kernel
theorem s276_15r {d : Nat} {st : List Value} {σ : am_I} {ρ : am_R} {g : am_J} {τ : am_T} {Q : am_Q} {v : Int32} {u : Nat} : AW d 276 15 [.ref u, .int v] (st) σ ρ g τ Q = AW d 276 18 [.ref u, .int (v + 1)] (st) σ ρ g τ Q := aw_lc m276 d276_15 rfl rfl rfl
theorem d276_18 : decode cX6_forgetSeen 18 = .ok (.goto (-16), 3) := by decide +kernel
theorem s276_18 {d : Nat} {st : List Value} {σ : am_I} {ρ : am_R} {g : am_J} {τ : am_T} {Q : am_Q} {x0 x1 : Value} : AW d 276 18 [x0, x1] (st) σ ρ g τ Q = AW d 276 2 [x0, x1] (st) σ ρ g τ Q := aw_lc m276 d276_18 rfl rfl rfl
theorem d276_21 : decode cX6_forgetSeen 21 = .ok (.return_, 1) := by decide +kernel
theorem s276_21 {d : Nat} {σ : am_I} {ρ : am_R} {g : am_J} {τ : am_T} {Q : am_Q} {x0 x1 : Value} : AW d 276 21 [x0, x1] ([]) σ ρ g τ Q = Q none σ ρ g τ := aw_rv m276 d276_21 rfl
theorem d277_0 : decode cJ7_copyOf_59c91 0 = .ok (.iload_n 1, 1) := by decide +kernel
theorem s277_0 {d : Nat} {st : List Value} {σ : am_I} {ρ : am_R} {g : am_J} {τ : am_T} {Q : am_Q} {x0 x2 : Value} {v : Int32} : AW d 277 0 [x0, .int v, x2] (st) σ ρ g τ Q = AW d 277 1 [x0, .int v, x2] (.int v :: st) σ ρ g τ Q := aw_lc m277 d277_0 rfl rfl rfl
theorem d277_1 : decode cJ7_copyOf_59c91 1 = .ok (.aload_n 0, 1) := by decide +kernel
theorem s277_1 {d : Nat} {st : List Value} {σ : am_I} {ρ : am_R} {g : am_J} {τ : am_T} {Q : am_Q} {x1 x2 : Value} {v : Nat} : AW d 277 1 [.ref v, x1, x2] (st) σ ρ g τ Q = AW d 277 2 [.ref v, x1, x2] (.ref v :: st) σ ρ g τ Q := aw_lc m277 d277_1 rfl rfl rfl
theorem d277_2 : decode cJ7_copyOf_59c91 2 = .ok (.arraylength, 1) := by decide +kernel
theorem s277_2 {d : Nat} {st : List Value} {σ : am_I} {ρ : am_R} {g : am_J} {τ : am_T} {Q : am_Q} {x0 x1 x2 : Value} {a : Nat} (ht : 14 ≤ τ.1 a ∧ τ.1 a ≤ 22) : AW d 277 2 [x0, x1, x2] (.ref a :: st) σ ρ g τ Q = AW d 277 3 [x0, x1, x2] (.int (nI (τ.2.1 a)) :: st) σ ρ g τ Q := aw_len m277 d277_2 rfl ht
theorem d277_3 : decode cJ7_copyOf_59c91 3 = .ok (.if_icmp .ne 11, 3) := by decide +kernel
theorem s277_3 {d : Nat} {st : List Value} {σ : am_I} {ρ : am_R} {g : am_J} {τ : am_T} {Q : am_Q} {x0 x1 x2 : Value} {v w : Int32} : AW d 277 3 [x0, x1, x2] (.int w :: .int v :: st) σ ρ g τ Q = if ¬ v = w then AW d 277 14 [x0, x1, x2] (st) σ ρ g τ Q else AW d 277 6 [x0, x1, x2] (st) σ ρ g τ Q := aw_br m277 d277_3 rfl rfl rfl
theorem d277_6 : decode cJ7_copyOf_59c91 6 = .ok (.aload_n 0, 1) := by decide +kernel
theorem s277_6 {d : Nat} {st : List Value} {σ : am_I} {ρ : am_R} {g : am_J} {τ : am_T} {Q : am_Q} {x1 x2 : Value} {v : Nat} : AW d 277 6 [.ref v, x1, x2] (st) σ ρ g τ Q = AW d 277 7 [.ref v, x1, x2] (.ref v :: st) σ ρ g τ Q := aw_lc m277 d277_6 rfl rfl rfl
theorem d277_13 : decode cJ7_copyOf_59c91 13 = .ok (.areturn, 1) := by decide +kernel
theorem s277_13 {d : Nat} {σ : am_I} {ρ : am_R} {g : am_J} {τ : am_T} {Q : am_Q} {x0 x1 x2 : Value} {b : Nat} : AW d 277 13 [x0, x1, x2] ([.ref b]) σ ρ g τ Q = Q (some (.ref b)) σ ρ g τ := aw_ra m277 d277_13 rfl
theorem d277_14 : decode cJ7_copyOf_59c91 14 = .ok (.iload_n 1, 1) := by decide +kernel
theorem s277_14 {d : Nat} {st : List Value} {σ : am_I} {ρ : am_R} {g : am_J} {τ : am_T} {Q : am_Q} {x0 x2 : Value} {v : Int32} : AW d 277 14 [x0, .int v, x2] (st) σ ρ g τ Q = AW d 277 15 [x0, .int v, x2] (.int v :: st) σ ρ g τ Q := aw_lc m277 d277_14 rfl rfl rfl
theorem d277_15 : decode cJ7_copyOf_59c91 15 = .ok (.newarray .int, 2) := by decide +kernel
theorem s277_15 {d : Nat} {st : List Value} {σ : am_I} {ρ : am_R} {g : am_J} {τ : am_T} {Q : am_Q} {x0 x1 x2 : Value} {j : Int32} (hj : ¬ j < 0 ∧ j.toNatClampNeg ≤ 10000) : AW d 277 15 [x0, x1, x2] (.int j :: st) σ ρ g τ Q = AW d 277 17 [x0, x1, x2] (.ref τ.2.2.1 :: st) (am_new 15 j.toNatClampNeg σ ρ g τ).1 (am_new 15 j.toNatClampNeg σ ρ g τ).2.1 (am_new 15 j.toNatClampNeg σ ρ g τ).2.2.1 (am_new 15 j.toNatClampNeg σ ρ g τ).2.2.2 Q := aw_nwa m277 d277_15 rfl rfl (by decide) hj
theorem d277_17 : decode cJ7_copyOf_59c91 17 = .ok (.astore_n 2, 1) := by decide +kernel
theorem s277_17 {d : Nat} {st : List Value} {σ : am_I} {ρ : am_R} {g : am_J} {τ : am_T} {Q : am_Q} {x0 x2 : Value} {v : Nat} {u : Int32} : AW d 277 17 [x0, .int u, x2] (.ref v :: st) σ ρ g τ Q = AW d 277 18 [x0, .int u, .ref v] (st) σ ρ g τ Q := aw_lc m277 d277_17 rfl rfl rfl
theorem d277_18 : decode cJ7_copyOf_59c91 18 = .ok (.aload_n 0, 1) := by decide +kernel
theorem s277_18 {d : Nat} {st : List Value} {σ : am_I} {ρ : am_R} {g : am_J} {τ : am_T} {Q : am_Q} {x1 x2 : Value} {v : Nat} : AW d 277 18 [.ref v, x1, x2] (st) σ ρ g τ Q = AW d 277 19 [.ref v, x1, x2] (.ref v :: st) σ ρ g τ Q := aw_lc m277 d277_18 rfl rfl rfl
theorem d277_19 : decode cJ7_copyOf_59c91 19 = .ok (.iconst 0, 1) := by decide +kernel
theorem s277_19 {d : Nat} {st : List Value} {σ : am_I} {ρ : am_R} {g : am_J} {τ : am_T} {Q : am_Q} {x0 x1 x2 : Value} : AW d 277 19 [x0, x1, x2] (st) σ ρ g τ Q = AW d 277 20 [x0, x1, x2] (.int 0 :: st) σ ρ g τ Q := aw_lc m277 d277_19 rfl rfl rfl
theorem d277_20 : decode cJ7_copyOf_59c91 20 = .ok (.aload_n 2, 1) := by decide +kernel
theorem s277_20 {d : Nat} {st : List Value} {σ : am_I} {ρ : am_R} {g : am_J} {τ : am_T} {Q : am_Q} {x0 x1 : Value} {v : Nat} : AW d 277 20 [x0, x1, .ref v] (st) σ ρ g τ Q = AW d 277 21 [x0, x1, .ref v] (.ref v :: st) σ ρ g τ Q := aw_lc m277 d277_20 rfl rfl rfl
theorem d277_21 : decode cJ7_copyOf_59c91 21 = .ok (.iconst 0, 1) := by decide +kernel
theorem s277_21 {d : Nat} {st : List Value} {σ : am_I} {ρ : am_R} {g : am_J} {τ : am_T} {Q : am_Q} {x0 x1 x2 : Value} : AW d 277 21 [x0, x1, x2] (st) σ ρ g τ Q = AW d 277 22 [x0, x1, x2] (.int 0 :: st) σ ρ g τ Q := aw_lc m277 d277_21 rfl rfl rfl
theorem d277_22 : decode cJ7_copyOf_59c91 22 = .ok (.aload_n 0, 1) := by decide +kernel
theorem s277_22 {d : Nat} {st : List Value} {σ : am_I} {ρ : am_R} {g : am_J} {τ : am_T} {Q : am_Q} {x1 x2 : Value} {v : Nat} : AW d 277 22 [.ref v, x1, x2] (st) σ ρ g τ Q = AW d 277 23 [.ref v, x1, x2] (.ref v :: st) σ ρ g τ Q := aw_lc m277 d277_22 rfl rfl rfl
theorem d277_23 : decode cJ7_copyOf_59c91 23 = .ok (.arraylength, 1) := by decide +kernel
theorem s277_23 {d : Nat} {st : List Value} {σ : am_I} {ρ : am_R} {g : am_J} {τ : am_T} {Q : am_Q} {x0 x1 x2 : Value} {a : Nat} (ht : 14 ≤ τ.1 a ∧ τ.1 a ≤ 22) : AW d 277 23 [x0, x1, x2] (.ref a :: st) σ ρ g τ Q = AW d 277 24 [x0, x1, x2] (.int (nI (τ.2.1 a)) :: st) σ ρ g τ Q := aw_len m277 d277_23 rfl ht
theorem d277_24 : decode cJ7_copyOf_59c91 24 = .ok (.iload_n 1, 1) := by decide +kernel
theorem s277_24 {d : Nat} {st : List Value} {σ : am_I} {ρ : am_R} {g : am_J} {τ : am_T} {Q : am_Q} {x0 x2 : Value} {v : Int32} : AW d 277 24 [x0, .int v, x2] (st) σ ρ g τ Q = AW d 277 25 [x0, .int v, x2] (.int v :: st) σ ρ g τ Q := aw_lc m277 d277_24 rfl rfl rfl
theorem d277_25 : decode cJ7_copyOf_59c91 25 = .ok (.invokestatic 304, 3) := by decide +kernel
theorem s277_25 {d : Nat} {st : List Value} {σ : am_I} {ρ : am_R} {g : am_J} {τ : am_T} {Q : am_Q} {x0 x1 x2 : Value} {v w : Int32} (hs : st.length ≤ 4) : AW d 277 25 [x0, x1, x2] (.int w :: .int v :: st) σ ρ g τ Q = AW d 277 28 [x0, x1, x2] (.int (if w < v then w else v) :: st) σ ρ g τ Q := aw_min m277 d277_25 rfl rfl hs
theorem d277_28 : decode cJ7_copyOf_59c91 28 = .ok (.invokestatic 150, 3) := by decide +kernel
theorem s277_28 {d : Nat} {st : List Value} {σ : am_I} {ρ : am_R} {g : am_J} {τ : am_T} {Q : am_Q} {x0 x1 x2 : Value} {a b : Nat} {sp dp nn : Int32} (hs : st.length ≤ 4) (h : τ.1 a = 15 ∧ τ.1 b = 15 ∧ a < am_BG ∧ b < am_BG ∧ a ≠ b ∧ ¬ nn < 0 ∧ ¬ sp < 0 ∧ ¬ dp < 0 ∧ sp.toNatClampNeg + nn.toNatClampNeg ≤ τ.2.1 a ∧ dp.toNatClampNeg + nn.toNatClampNeg ≤ τ.2.1 b) : AW d 277 28 [x0, x1, x2] (.int nn :: .int dp :: .ref b :: .int sp :: .ref a :: st) σ ρ g τ Q = AW d 277 31 [x0, x1, x2] (st) (am_ur σ b (va_cpy (σ a) (σ b) sp.toNatClampNeg dp.toNatClampNeg nn.toNatClampNeg)) ρ g τ Q := aw_cpy m277 d277_28 rfl rfl hs h
theorem d277_31 : decode cJ7_copyOf_59c91 31 = .ok (.aload_n 2, 1) := by decide +kernel
theorem s277_31 {d : Nat} {st : List Value} {σ : am_I} {ρ : am_R} {g : am_J} {τ : am_T} {Q : am_Q} {x0 x1 : Value} {v : Nat} : AW d 277 31 [x0, x1, .ref v] (st) σ ρ g τ Q = AW d 277 32 [x0, x1, .ref v] (.ref v :: st) σ ρ g τ Q := aw_lc m277 d277_31 rfl rfl rfl
theorem d277_32 : decode cJ7_copyOf_59c91 32 = .ok (.areturn, 1) := by decide +kernel
theorem s277_32 {d : Nat} {σ : am_I} {ρ : am_R} {g : am_J} {τ : am_T} {Q : am_Q} {x0 x1 x2 : Value} {b : Nat} : AW d 277 32 [x0, x1, x2] ([.ref b]) σ ρ g τ Q = Q (some (.ref b)) σ ρ g τ := aw_ra m277 d277_32 rfl
theorem d278_0 : decode cJ3_checkIndex_8e157 0 = .ok (.iload_n 0, 1) := by decide +kernel
theorem s278_0 {d : Nat} {st : List Value} {σ : am_I} {ρ : am_R} {g : am_J} {τ : am_T} {Q : am_Q} {x1 x2 : Value} {v : Int32} : AW d 278 0 [.int v, x1, x2] (st) σ ρ g τ Q = AW d 278 1 [.int v, x1, x2] (.int v :: st) σ ρ g τ Q := aw_lc m278 d278_0 rfl rfl rfl
theorem d278_1 : decode cJ3_checkIndex_8e157 1 = .ok (.ifCond .lt 8, 3) := by decide +kernel
theorem s278_1 {d : Nat} {st : List Value} {σ : am_I} {ρ : am_R} {g : am_J} {τ : am_T} {Q : am_Q} {x0 x1 x2 : Value} {v : Int32} : AW d 278 1 [x0, x1, x2] (.int v :: st) σ ρ g τ Q = if v < 0 then AW d 278 9 [x0, x1, x2] (st) σ ρ g τ Q else AW d 278 4 [x0, x1, x2] (st) σ ρ g τ Q := aw_br m278 d278_1 rfl rfl rfl
theorem d278_4 : decode cJ3_checkIndex_8e157 4 = .ok (.iload_n 0, 1) := by decide +kernel
theorem s278_4 {d : Nat} {st : List Value} {σ : am_I} {ρ : am_R} {g : am_J} {τ : am_T} {Q : am_Q} {x1 x2 : Value} {v : Int32} : AW d 278 4 [.int v, x1, x2] (st) σ ρ g τ Q = AW d 278 5 [.int v, x1, x2] (.int v :: st) σ ρ g τ Q := aw_lc m278 d278_4 rfl rfl rfl
theorem d278_5 : decode cJ3_checkIndex_8e157 5 = .ok (.iload_n 1, 1) := by decide +kernel
theorem s278_5 {d : Nat} {st : List Value} {σ : am_I} {ρ : am_R} {g : am_J} {τ : am_T} {Q : am_Q} {x0 x2 : Value} {v : Int32} : AW d 278 5 [x0, .int v, x2] (st) σ ρ g τ Q = AW d 278 6 [x0, .int v, x2] (.int v :: st) σ ρ g τ Q := aw_lc m278 d278_5 rfl rfl rfl
theorem d278_6 : decode cJ3_checkIndex_8e157 6 = .ok (.if_icmp .lt 10, 3) := by decide +kernel
theorem s278_6 {d : Nat} {st : List Value} {σ : am_I} {ρ : am_R} {g : am_J} {τ : am_T} {Q : am_Q} {x0 x1 x2 : Value} {v w : Int32} : AW d 278 6 [x0, x1, x2] (.int w :: .int v :: st) σ ρ g τ Q = if v < w then AW d 278 16 [x0, x1, x2] (st) σ ρ g τ Q else AW d 278 9 [x0, x1, x2] (st) σ ρ g τ Q := aw_br m278 d278_6 rfl rfl rfl
theorem d278_9 : decode cJ3_checkIndex_8e157 9 = .ok (.aload_n 2, 1) := by decide +kernel
theorem s278_9 {d : Nat} {st : List Value} {σ : am_I} {ρ : am_R} {g : am_J} {τ : am_T} {Q : am_Q} {x0 x1 : Value} {v : Nat} : AW d 278 9 [x0, x1, .ref v] (st) σ ρ g τ Q = AW d 278 10 [x0, x1, .ref v] (.ref v :: st) σ ρ g τ Q := aw_lc m278 d278_9 rfl rfl rfl
theorem d278_10 : decode cJ3_checkIndex_8e157 10 = .ok (.iload_n 0, 1) := by decide +kernel
theorem s278_10 {d : Nat} {st : List Value} {σ : am_I} {ρ : am_R} {g : am_J} {τ : am_T} {Q : am_Q} {x1 x2 : Value} {v : Int32} : AW d 278 10 [.int v, x1, x2] (st) σ ρ g τ Q = AW d 278 11 [.int v, x1, x2] (.int v :: st) σ ρ g τ Q := aw_lc m278 d278_10 rfl rfl rfl
theorem d278_11 : decode cJ3_checkIndex_8e157 11 = .ok (.iload_n 1, 1) := by decide +kernel
theorem s278_11 {d : Nat} {st : List Value} {σ : am_I} {ρ : am_R} {g : am_J} {τ : am_T} {Q : am_Q} {x0 x2 : Value} {v : Int32} : AW d 278 11 [x0, .int v, x2] (st) σ ρ g τ Q = AW d 278 12 [x0, .int v, x2] (.int v :: st) σ ρ g τ Q := aw_lc m278 d278_11 rfl rfl rfl
theorem d278_16 : decode cJ3_checkIndex_8e157 16 = .ok (.iload_n 0, 1) := by decide +kernel
theorem s278_16 {d : Nat} {st : List Value} {σ : am_I} {ρ : am_R} {g : am_J} {τ : am_T} {Q : am_Q} {x1 x2 : Value} {v : Int32} : AW d 278 16 [.int v, x1, x2] (st) σ ρ g τ Q = AW d 278 17 [.int v, x1, x2] (.int v :: st) σ ρ g τ Q := aw_lc m278 d278_16 rfl rfl rfl
theorem d278_17 : decode cJ3_checkIndex_8e157 17 = .ok (.ireturn, 1) := by decide +kernel
theorem s278_17 {d : Nat} {σ : am_I} {ρ : am_R} {g : am_J} {τ : am_T} {Q : am_Q} {x0 x1 x2 : Value} {v : Int32} : AW d 278 17 [x0, x1, x2] ([.int v]) σ ρ g τ Q = Q (some (.int v)) σ ρ g τ := aw_ri m278 d278_17 rfl
