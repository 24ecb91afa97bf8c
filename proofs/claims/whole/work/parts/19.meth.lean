/-! methods: their places, entries -/
theorem m0 : am_M[0]? = some (yX0_init, cX0_init, 1, none, 0) := by rfl
theorem en0 {p0 : Nat} : am_en 0 [.ref p0] = [.ref p0] := am_en_of m0
theorem ok0 {p0 : Nat} : am_okc 0 [.ref p0] = true := am_okc_of m0 rfl
theorem m1 : am_M[1]? = some (yX0_isUnder, cX0_isUnder, 4, (some .boolean), 0) := by rfl
theorem en1 {p0 : Int32} {p1 : Int32} : am_en 1 [.int p0, .int p1] = [.int p0, .int p1, am_jk, am_jk] := am_en_of m1
theorem ok1 {p0 : Int32} {p1 : Int32} : am_okc 1 [.int p0, .int p1] = true := am_okc_of m1 rfl
theorem m2 : am_M[2]? = some (yX0_turnTo, cX0_turnTo, 5, none, 0) := by rfl
theorem en2 {p0 : Nat} {p1 : Int32} {p2 : Int32} {p3 : Int32} {p4 : Int32} : am_en 2 [.ref p0, .int p1, .int p2, .int p3, .int p4] = [.ref p0, .int p1, .int p2, .int p3, .int p4] := am_en_of m2
theorem ok2 {p0 : Nat} {p1 : Int32} {p2 : Int32} {p3 : Int32} {p4 : Int32} : am_okc 2 [.ref p0, .int p1, .int p2, .int p3, .int p4] = true := am_okc_of m2 rfl
theorem m3 : am_M[3]? = some (yX0_answer, cX0_answer, 4, (some .int), 0) := by rfl
theorem en3 {p0 : Nat} {p1 : Int32} {p2 : Int32} : am_en 3 [.ref p0, .int p1, .int p2] = [.ref p0, .int p1, .int p2, am_jk] := am_en_of m3
theorem ok3 {p0 : Nat} {p1 : Int32} {p2 : Int32} : am_okc 3 [.ref p0, .int p1, .int p2] = true := am_okc_of m3 rfl
theorem m4 : am_M[4]? = some (yX0_run, cX0_run, 8, (some .int), 0) := by rfl
theorem en4 {p0 : Nat} {p1 : Int32} {p2 : Int32} {p3 : Int32} {p4 : Int32} : am_en 4 [.ref p0, .int p1, .int p2, .int p3, .int p4] = [.ref p0, .int p1, .int p2, .int p3, .int p4, am_jk, am_jk, am_jk] := am_en_of m4
theorem ok4 {p0 : Nat} {p1 : Int32} {p2 : Int32} {p3 : Int32} {p4 : Int32} : am_okc 4 [.ref p0, .int p1, .int p2, .int p3, .int p4] = true := am_okc_of m4 rfl
theorem m5 : am_M[5]? = some (yX0_parted, cX0_parted, 3, (some .int), 0) := by rfl
theorem en5 {p0 : Nat} {p1 : Int32} {p2 : Int32} : am_en 5 [.ref p0, .int p1, .int p2] = [.ref p0, .int p1, .int p2] := am_en_of m5
theorem ok5 {p0 : Nat} {p1 : Int32} {p2 : Int32} : am_okc 5 [.ref p0, .int p1, .int p2] = true := am_okc_of m5 rfl
theorem m6 : am_M[6]? = some (yX0_note, cX0_note, 2, none, 0) := by rfl
theorem en6 {p0 : Nat} {p1 : Int32} : am_en 6 [.ref p0, .int p1] = [.ref p0, .int p1] := am_en_of m6
theorem ok6 {p0 : Nat} {p1 : Int32} : am_okc 6 [.ref p0, .int p1] = true := am_okc_of m6 rfl
theorem m7 : am_M[7]? = some (yX1_init, cX1_init, 1, none, 1) := by rfl
theorem en7 {p0 : Nat} : am_en 7 [.ref p0] = [.ref p0] := am_en_of m7
theorem ok7 {p0 : Nat} : am_okc 7 [.ref p0] = true := am_okc_of m7 rfl
theorem m8 : am_M[8]? = some (yX1_begin, cX1_begin, 7, none, 1) := by rfl
theorem en8 {p0 : Nat} {p1 : Int32} {p2 : Int32} {p3 : Int32} {p4 : Int32} {p5 : Int32} {p6 : Int32} : am_en 8 [.ref p0, .int p1, .int p2, .int p3, .int p4, .int p5, .int p6] = [.ref p0, .int p1, .int p2, .int p3, .int p4, .int p5, .int p6] := am_en_of m8
theorem ok8 {p0 : Nat} {p1 : Int32} {p2 : Int32} {p3 : Int32} {p4 : Int32} {p5 : Int32} {p6 : Int32} : am_okc 8 [.ref p0, .int p1, .int p2, .int p3, .int p4, .int p5, .int p6] = true := am_okc_of m8 rfl
theorem m9 : am_M[9]? = some (yX1_copyFrom, cX1_copyFrom, 2, none, 1) := by rfl
theorem en9 {p0 : Nat} {p1 : Nat} : am_en 9 [.ref p0, .ref p1] = [.ref p0, .ref p1] := am_en_of m9
theorem ok9 {p0 : Nat} {p1 : Nat} : am_okc 9 [.ref p0, .ref p1] = true := am_okc_of m9 rfl
theorem m10 : am_M[10]? = some (yX1_fallsIn, cX1_fallsIn, 2, (some .boolean), 1) := by rfl
theorem en10 {p0 : Nat} {p1 : Int32} : am_en 10 [.ref p0, .int p1] = [.ref p0, .int p1] := am_en_of m10
theorem ok10 {p0 : Nat} {p1 : Int32} : am_okc 10 [.ref p0, .int p1] = true := am_okc_of m10 rfl
theorem m11 : am_M[11]? = some (yX1_factOf, cX1_factOf, 3, (some .int), 1) := by rfl
theorem en11 {p0 : Nat} {p1 : Int32} {p2 : Int32} : am_en 11 [.ref p0, .int p1, .int p2] = [.ref p0, .int p1, .int p2] := am_en_of m11
theorem ok11 {p0 : Nat} {p1 : Int32} {p2 : Int32} : am_okc 11 [.ref p0, .int p1, .int p2] = true := am_okc_of m11 rfl
theorem m12 : am_M[12]? = some (yX1_movePrice, cX1_movePrice, 2, none, 1) := by rfl
theorem en12 {p0 : Nat} : am_en 12 [.ref p0] = [.ref p0, am_jk] := am_en_of m12
theorem ok12 {p0 : Nat} : am_okc 12 [.ref p0] = true := am_okc_of m12 rfl
theorem m13 : am_M[13]? = some (yX1_kindNow, cX1_kindNow, 1, (some .int), 1) := by rfl
theorem en13 {p0 : Nat} : am_en 13 [.ref p0] = [.ref p0] := am_en_of m13
theorem ok13 {p0 : Nat} : am_okc 13 [.ref p0] = true := am_okc_of m13 rfl
theorem m14 : am_M[14]? = some (yX2_init, cX2_init, 1, none, 2) := by rfl
theorem en14 {p0 : Nat} : am_en 14 [.ref p0] = [.ref p0] := am_en_of m14
theorem ok14 {p0 : Nat} : am_okc 14 [.ref p0] = true := am_okc_of m14 rfl
theorem m15 : am_M[15]? = some (yX2_makeSheet, cX2_makeSheet, 4, none, 2) := by rfl
theorem en15 {p0 : Nat} {p1 : Int32} {p2 : Int32} {p3 : Int32} : am_en 15 [.ref p0, .int p1, .int p2, .int p3] = [.ref p0, .int p1, .int p2, .int p3] := am_en_of m15
theorem ok15 {p0 : Nat} {p1 : Int32} {p2 : Int32} {p3 : Int32} : am_okc 15 [.ref p0, .int p1, .int p2, .int p3] = true := am_okc_of m15 rfl
theorem m16 : am_M[16]? = some (yX2_refusal, cX2_refusal, 5, (some .int), 2) := by rfl
theorem en16 {p0 : Nat} {p1 : Int32} {p2 : Int32} {p3 : Int32} {p4 : Int32} : am_en 16 [.ref p0, .int p1, .int p2, .int p3, .int p4] = [.ref p0, .int p1, .int p2, .int p3, .int p4] := am_en_of m16
theorem ok16 {p0 : Nat} {p1 : Int32} {p2 : Int32} {p3 : Int32} {p4 : Int32} : am_okc 16 [.ref p0, .int p1, .int p2, .int p3, .int p4] = true := am_okc_of m16 rfl
theorem m17 : am_M[17]? = some (yX2_cellAt, cX2_cellAt, 3, (some .int), 2) := by rfl
theorem en17 {p0 : Nat} {p1 : Int32} {p2 : Int32} : am_en 17 [.ref p0, .int p1, .int p2] = [.ref p0, .int p1, .int p2] := am_en_of m17
theorem ok17 {p0 : Nat} {p1 : Int32} {p2 : Int32} : am_okc 17 [.ref p0, .int p1, .int p2] = true := am_okc_of m17 rfl
theorem m18 : am_M[18]? = some (yX2_narrowed, cX2_narrowed, 2, (some .int), 2) := by rfl
theorem en18 {p0 : Int32} {p1 : Int32} : am_en 18 [.int p0, .int p1] = [.int p0, .int p1] := am_en_of m18
theorem ok18 {p0 : Int32} {p1 : Int32} : am_okc 18 [.int p0, .int p1] = true := am_okc_of m18 rfl
theorem m19 : am_M[19]? = some (yX2_lay, cX2_lay, 4, (some .int), 2) := by rfl
theorem en19 {p0 : Nat} {p1 : Int32} {p2 : Int32} {p3 : Int32} : am_en 19 [.ref p0, .int p1, .int p2, .int p3] = [.ref p0, .int p1, .int p2, .int p3] := am_en_of m19
theorem ok19 {p0 : Nat} {p1 : Int32} {p2 : Int32} {p3 : Int32} : am_okc 19 [.ref p0, .int p1, .int p2, .int p3] = true := am_okc_of m19 rfl
theorem m20 : am_M[20]? = some (yX2_laySheet, cX2_laySheet, 3, (some .int), 2) := by rfl
theorem en20 {p0 : Nat} {p1 : Int32} {p2 : Int32} : am_en 20 [.ref p0, .int p1, .int p2] = [.ref p0, .int p1, .int p2] := am_en_of m20
theorem ok20 {p0 : Nat} {p1 : Int32} {p2 : Int32} : am_okc 20 [.ref p0, .int p1, .int p2] = true := am_okc_of m20 rfl
theorem m21 : am_M[21]? = some (yX3_init, cX3_init, 2, none, 3) := by rfl
theorem en21 {p0 : Nat} : am_en 21 [.ref p0] = [.ref p0, am_jk] := am_en_of m21
theorem ok21 {p0 : Nat} : am_okc 21 [.ref p0] = true := am_okc_of m21 rfl
theorem m22 : am_M[22]? = some (yX3_copyFrom, cX3_copyFrom, 3, none, 3) := by rfl
theorem en22 {p0 : Nat} {p1 : Nat} : am_en 22 [.ref p0, .ref p1] = [.ref p0, .ref p1, am_jk] := am_en_of m22
theorem ok22 {p0 : Nat} {p1 : Nat} : am_okc 22 [.ref p0, .ref p1] = true := am_okc_of m22 rfl
theorem m23 : am_M[23]? = some (yX3_hasProvince, cX3_hasProvince, 2, (some .boolean), 3) := by rfl
theorem en23 {p0 : Nat} {p1 : Int32} : am_en 23 [.ref p0, .int p1] = [.ref p0, .int p1] := am_en_of m23
theorem ok23 {p0 : Nat} {p1 : Int32} : am_okc 23 [.ref p0, .int p1] = true := am_okc_of m23 rfl
theorem m24 : am_M[24]? = some (yX3_hasDebt, cX3_hasDebt, 2, (some .boolean), 3) := by rfl
theorem en24 {p0 : Nat} {p1 : Int32} : am_en 24 [.ref p0, .int p1] = [.ref p0, .int p1] := am_en_of m24
theorem ok24 {p0 : Nat} {p1 : Int32} : am_okc 24 [.ref p0, .int p1] = true := am_okc_of m24 rfl
theorem m25 : am_M[25]? = some (yX3_addDebt, cX3_addDebt, 6, (some .int), 3) := by rfl
theorem en25 {p0 : Nat} {p1 : Int32} {p2 : Int32} {p3 : Int32} {p4 : Int32} {p5 : Int32} : am_en 25 [.ref p0, .int p1, .int p2, .int p3, .int p4, .int p5] = [.ref p0, .int p1, .int p2, .int p3, .int p4, .int p5] := am_en_of m25
theorem ok25 {p0 : Nat} {p1 : Int32} {p2 : Int32} {p3 : Int32} {p4 : Int32} {p5 : Int32} : am_okc 25 [.ref p0, .int p1, .int p2, .int p3, .int p4, .int p5] = true := am_okc_of m25 rfl
theorem m26 : am_M[26]? = some (yX3_statuteIn, cX3_statuteIn, 3, (some (.object "DebtCouncil$Statute")), 3) := by rfl
theorem en26 {p0 : Nat} {p1 : Int32} : am_en 26 [.ref p0, .int p1] = [.ref p0, .int p1, am_jk] := am_en_of m26
theorem ok26 {p0 : Nat} {p1 : Int32} : am_okc 26 [.ref p0, .int p1] = true := am_okc_of m26 rfl
theorem m27 : am_M[27]? = some (yX3_dueOf, cX3_dueOf, 5, (some .int), 3) := by rfl
theorem en27 {p0 : Nat} {p1 : Nat} {p2 : Int32} {p3 : Int32} {p4 : Int32} : am_en 27 [.ref p0, .ref p1, .int p2, .int p3, .int p4] = [.ref p0, .ref p1, .int p2, .int p3, .int p4] := am_en_of m27
theorem ok27 {p0 : Nat} {p1 : Nat} {p2 : Int32} {p3 : Int32} {p4 : Int32} : am_okc 27 [.ref p0, .ref p1, .int p2, .int p3, .int p4] = true := am_okc_of m27 rfl
theorem m28 : am_M[28]? = some (yX3_roundOf, cX3_roundOf, 3, (some .int), 3) := by rfl
theorem en28 {p0 : Int32} {p1 : Int32} {p2 : Int32} : am_en 28 [.int p0, .int p1, .int p2] = [.int p0, .int p1, .int p2] := am_en_of m28
theorem ok28 {p0 : Int32} {p1 : Int32} {p2 : Int32} : am_okc 28 [.int p0, .int p1, .int p2] = true := am_okc_of m28 rfl
theorem m29 : am_M[29]? = some (yX3_gatheredOf, cX3_gatheredOf, 7, (some .int), 3) := by rfl
theorem en29 {p0 : Nat} {p1 : Int32} {p2 : Int32} {p3 : Int32} : am_en 29 [.ref p0, .int p1, .int p2, .int p3] = [.ref p0, .int p1, .int p2, .int p3, am_jk, am_jk, am_jk] := am_en_of m29
theorem ok29 {p0 : Nat} {p1 : Int32} {p2 : Int32} {p3 : Int32} : am_okc 29 [.ref p0, .int p1, .int p2, .int p3] = true := am_okc_of m29 rfl
theorem m30 : am_M[30]? = some (yX3_roundIn, cX3_roundIn, 6, (some .int), 3) := by rfl
theorem en30 {p0 : Nat} {p1 : Int32} {p2 : Int32} {p3 : Int32} : am_en 30 [.ref p0, .int p1, .int p2, .int p3] = [.ref p0, .int p1, .int p2, .int p3, am_jk, am_jk] := am_en_of m30
theorem ok30 {p0 : Nat} {p1 : Int32} {p2 : Int32} {p3 : Int32} : am_okc 30 [.ref p0, .int p1, .int p2, .int p3] = true := am_okc_of m30 rfl
theorem m31 : am_M[31]? = some (yX3_addToTreasury, cX3_addToTreasury, 2, none, 3) := by rfl
theorem en31 {p0 : Nat} {p1 : Int32} : am_en 31 [.ref p0, .int p1] = [.ref p0, .int p1] := am_en_of m31
theorem ok31 {p0 : Nat} {p1 : Int32} : am_okc 31 [.ref p0, .int p1] = true := am_okc_of m31 rfl
theorem m32 : am_M[32]? = some (yX3_payGarrisons, cX3_payGarrisons, 2, none, 3) := by rfl
theorem en32 {p0 : Nat} : am_en 32 [.ref p0] = [.ref p0, am_jk] := am_en_of m32
theorem ok32 {p0 : Nat} : am_okc 32 [.ref p0] = true := am_okc_of m32 rfl
theorem m33 : am_M[33]? = some (yX3_movePrices, cX3_movePrices, 2, none, 3) := by rfl
theorem en33 {p0 : Nat} : am_en 33 [.ref p0] = [.ref p0, am_jk] := am_en_of m33
theorem ok33 {p0 : Nat} : am_okc 33 [.ref p0] = true := am_okc_of m33 rfl
theorem m34 : am_M[34]? = some (yX3_knownPrice, cX3_knownPrice, 3, (some .int), 3) := by rfl
theorem en34 {p0 : Nat} {p1 : Int32} {p2 : Nat} : am_en 34 [.ref p0, .int p1, .ref p2] = [.ref p0, .int p1, .ref p2] := am_en_of m34
theorem ok34 {p0 : Nat} {p1 : Int32} {p2 : Nat} : am_okc 34 [.ref p0, .int p1, .ref p2] = true := am_okc_of m34 rfl
theorem m35 : am_M[35]? = some (yX3_worthOf, cX3_worthOf, 2, (some .int), 3) := by rfl
theorem en35 {p0 : Nat} {p1 : Nat} : am_en 35 [.ref p0, .ref p1] = [.ref p0, .ref p1] := am_en_of m35
theorem ok35 {p0 : Nat} {p1 : Nat} : am_okc 35 [.ref p0, .ref p1] = true := am_okc_of m35 rfl
theorem m36 : am_M[36]? = some (yX3_yearOfTenMiles, cX3_yearOfTenMiles, 6, (some .int), 3) := by rfl
theorem en36 {p0 : Nat} {p1 : Int32} : am_en 36 [.ref p0, .int p1] = [.ref p0, .int p1, am_jk, am_jk, am_jk, am_jk] := am_en_of m36
theorem ok36 {p0 : Nat} {p1 : Int32} : am_okc 36 [.ref p0, .int p1] = true := am_okc_of m36 rfl
theorem m37 : am_M[37]? = some (yX3_takenUpTo, cX3_takenUpTo, 4, (some .int), 3) := by rfl
theorem en37 {p0 : Nat} {p1 : Int32} : am_en 37 [.ref p0, .int p1] = [.ref p0, .int p1, am_jk, am_jk] := am_en_of m37
theorem ok37 {p0 : Nat} {p1 : Int32} : am_okc 37 [.ref p0, .int p1] = true := am_okc_of m37 rfl
theorem m38 : am_M[38]? = some (yX3_mayTake, cX3_mayTake, 3, (some .int), 3) := by rfl
theorem en38 {p0 : Nat} {p1 : Int32} : am_en 38 [.ref p0, .int p1] = [.ref p0, .int p1, am_jk] := am_en_of m38
theorem ok38 {p0 : Nat} {p1 : Int32} : am_okc 38 [.ref p0, .int p1] = true := am_okc_of m38 rfl
theorem m39 : am_M[39]? = some (yX3_mutinies, cX3_mutinies, 3, (some .int), 3) := by rfl
theorem en39 {p0 : Nat} : am_en 39 [.ref p0] = [.ref p0, am_jk, am_jk] := am_en_of m39
theorem ok39 {p0 : Nat} : am_okc 39 [.ref p0] = true := am_okc_of m39 rfl
theorem m40 : am_M[40]? = some (yX3_voidDebts, cX3_voidDebts, 3, (some .int), 3) := by rfl
theorem en40 {p0 : Nat} : am_en 40 [.ref p0] = [.ref p0, am_jk, am_jk] := am_en_of m40
theorem ok40 {p0 : Nat} : am_okc 40 [.ref p0] = true := am_okc_of m40 rfl
theorem m41 : am_M[41]? = some (yX3_owedInAll, cX3_owedInAll, 3, (some .int), 3) := by rfl
theorem en41 {p0 : Nat} : am_en 41 [.ref p0] = [.ref p0, am_jk, am_jk] := am_en_of m41
theorem ok41 {p0 : Nat} : am_okc 41 [.ref p0] = true := am_okc_of m41 rfl
theorem m42 : am_M[42]? = some (yX4_init, cX4_init, 3, none, 4) := by rfl
theorem en42 {p0 : Nat} {p1 : Int32} {p2 : Int32} : am_en 42 [.ref p0, .int p1, .int p2] = [.ref p0, .int p1, .int p2] := am_en_of m42
theorem ok42 {p0 : Nat} {p1 : Int32} {p2 : Int32} : am_okc 42 [.ref p0, .int p1, .int p2] = true := am_okc_of m42 rfl
theorem m43 : am_M[43]? = some (yX4_isFull, cX4_isFull, 1, (some .boolean), 4) := by rfl
theorem en43 {p0 : Nat} : am_en 43 [.ref p0] = [.ref p0] := am_en_of m43
theorem ok43 {p0 : Nat} : am_okc 43 [.ref p0] = true := am_okc_of m43 rfl
theorem m44 : am_M[44]? = some (yX4_has, cX4_has, 2, (some .boolean), 4) := by rfl
theorem en44 {p0 : Nat} {p1 : Int32} : am_en 44 [.ref p0, .int p1] = [.ref p0, .int p1] := am_en_of m44
theorem ok44 {p0 : Nat} {p1 : Int32} : am_okc 44 [.ref p0, .int p1] = true := am_okc_of m44 rfl
theorem m45 : am_M[45]? = some (yX4_begin, cX4_begin, 1, (some .int), 4) := by rfl
theorem en45 {p0 : Nat} : am_en 45 [.ref p0] = [.ref p0] := am_en_of m45
theorem ok45 {p0 : Nat} : am_okc 45 [.ref p0] = true := am_okc_of m45 rfl
theorem m46 : am_M[46]? = some (yX4_at, cX4_at, 3, (some .int), 4) := by rfl
theorem en46 {p0 : Nat} {p1 : Int32} {p2 : Int32} : am_en 46 [.ref p0, .int p1, .int p2] = [.ref p0, .int p1, .int p2] := am_en_of m46
theorem ok46 {p0 : Nat} {p1 : Int32} {p2 : Int32} : am_okc 46 [.ref p0, .int p1, .int p2] = true := am_okc_of m46 rfl
theorem m47 : am_M[47]? = some (yX4_set, cX4_set, 4, none, 4) := by rfl
theorem en47 {p0 : Nat} {p1 : Int32} {p2 : Int32} {p3 : Int32} : am_en 47 [.ref p0, .int p1, .int p2, .int p3] = [.ref p0, .int p1, .int p2, .int p3] := am_en_of m47
theorem ok47 {p0 : Nat} {p1 : Int32} {p2 : Int32} {p3 : Int32} : am_okc 47 [.ref p0, .int p1, .int p2, .int p3] = true := am_okc_of m47 rfl
theorem m48 : am_M[48]? = some (yX4_sumOf, cX4_sumOf, 4, (some .int), 4) := by rfl
theorem en48 {p0 : Nat} {p1 : Int32} : am_en 48 [.ref p0, .int p1] = [.ref p0, .int p1, am_jk, am_jk] := am_en_of m48
theorem ok48 {p0 : Nat} {p1 : Int32} : am_okc 48 [.ref p0, .int p1] = true := am_okc_of m48 rfl
theorem m49 : am_M[49]? = some (yX4_copyFrom, cX4_copyFrom, 2, none, 4) := by rfl
theorem en49 {p0 : Nat} {p1 : Nat} : am_en 49 [.ref p0, .ref p1] = [.ref p0, .ref p1] := am_en_of m49
theorem ok49 {p0 : Nat} {p1 : Nat} : am_okc 49 [.ref p0, .ref p1] = true := am_okc_of m49 rfl
theorem m50 : am_M[50]? = some (yX5_init, cX5_init, 5, none, 5) := by rfl
theorem en50 {p0 : Nat} {p1 : Int32} {p2 : Int32} {p3 : Int32} {p4 : Nat} : am_en 50 [.ref p0, .int p1, .int p2, .int p3, .ref p4] = [.ref p0, .int p1, .int p2, .int p3, .ref p4] := am_en_of m50
theorem ok50 {p0 : Nat} {p1 : Int32} {p2 : Int32} {p3 : Int32} {p4 : Nat} : am_okc 50 [.ref p0, .int p1, .int p2, .int p3, .ref p4] = true := am_okc_of m50 rfl
theorem m51 : am_M[51]? = some (yX5_step, cX5_step, 4, (some .int), 5) := by rfl
theorem en51 {p0 : Int32} {p1 : Int32} {p2 : Int32} {p3 : Int32} : am_en 51 [.int p0, .int p1, .int p2, .int p3] = [.int p0, .int p1, .int p2, .int p3] := am_en_of m51
theorem ok51 {p0 : Int32} {p1 : Int32} {p2 : Int32} {p3 : Int32} : am_okc 51 [.int p0, .int p1, .int p2, .int p3] = true := am_okc_of m51 rfl
theorem m52 : am_M[52]? = some (yX5_holds, cX5_holds, 6, (some .boolean), 5) := by rfl
theorem en52 {p0 : Nat} {p1 : Nat} {p2 : Int32} : am_en 52 [.ref p0, .ref p1, .int p2] = [.ref p0, .ref p1, .int p2, am_jk, am_jk, am_jk] := am_en_of m52
theorem ok52 {p0 : Nat} {p1 : Nat} {p2 : Int32} : am_okc 52 [.ref p0, .ref p1, .int p2] = true := am_okc_of m52 rfl
theorem m53 : am_M[53]? = some (yX5_compares, cX5_compares, 3, (some .boolean), 5) := by rfl
theorem en53 {p0 : Int32} {p1 : Int32} : am_en 53 [.int p0, .int p1] = [.int p0, .int p1, am_jk] := am_en_of m53
theorem ok53 {p0 : Int32} {p1 : Int32} : am_okc 53 [.int p0, .int p1] = true := am_okc_of m53 rfl
theorem m54 : am_M[54]? = some (yX6_init, cX6_init, 1, none, 6) := by rfl
theorem en54 {p0 : Nat} : am_en 54 [.ref p0] = [.ref p0] := am_en_of m54
theorem ok54 {p0 : Nat} : am_okc 54 [.ref p0] = true := am_okc_of m54 rfl
theorem m55 : am_M[55]? = some (yX6_mayBeOne, cX6_mayBeOne, 5, (some .boolean), 6) := by rfl
theorem en55 {p0 : Nat} {p1 : Int32} {p2 : Int32} : am_en 55 [.ref p0, .int p1, .int p2] = [.ref p0, .int p1, .int p2, am_jk, am_jk] := am_en_of m55
theorem ok55 {p0 : Nat} {p1 : Int32} {p2 : Int32} : am_okc 55 [.ref p0, .int p1, .int p2] = true := am_okc_of m55 rfl
theorem m56 : am_M[56]? = some (yX6_othersOf, cX6_othersOf, 4, (some .int), 6) := by rfl
theorem en56 {p0 : Nat} {p1 : Int32} : am_en 56 [.ref p0, .int p1] = [.ref p0, .int p1, am_jk, am_jk] := am_en_of m56
theorem ok56 {p0 : Nat} {p1 : Int32} : am_okc 56 [.ref p0, .int p1] = true := am_okc_of m56 rfl
theorem m57 : am_M[57]? = some (yX6_matchAll, cX6_matchAll, 3, none, 6) := by rfl
theorem en57 {p0 : Nat} {p1 : Nat} : am_en 57 [.ref p0, .ref p1] = [.ref p0, .ref p1, am_jk] := am_en_of m57
theorem ok57 {p0 : Nat} {p1 : Nat} : am_okc 57 [.ref p0, .ref p1] = true := am_okc_of m57 rfl
theorem m58 : am_M[58]? = some (yX6_findsPartner, cX6_findsPartner, 5, (some .boolean), 6) := by rfl
theorem en58 {p0 : Nat} {p1 : Nat} {p2 : Int32} {p3 : Int32} : am_en 58 [.ref p0, .ref p1, .int p2, .int p3] = [.ref p0, .ref p1, .int p2, .int p3, am_jk] := am_en_of m58
theorem ok58 {p0 : Nat} {p1 : Nat} {p2 : Int32} {p3 : Int32} : am_okc 58 [.ref p0, .ref p1, .int p2, .int p3] = true := am_okc_of m58 rfl
theorem m59 : am_M[59]? = some (yX7_init, cX7_init, 1, none, 7) := by rfl
theorem en59 {p0 : Nat} : am_en 59 [.ref p0] = [.ref p0] := am_en_of m59
theorem ok59 {p0 : Nat} : am_okc 59 [.ref p0] = true := am_okc_of m59 rfl
theorem m60 : am_M[60]? = some (yX7_begin, cX7_begin, 3, none, 7) := by rfl
theorem en60 {p0 : Nat} {p1 : Int32} {p2 : Int32} : am_en 60 [.ref p0, .int p1, .int p2] = [.ref p0, .int p1, .int p2] := am_en_of m60
theorem ok60 {p0 : Nat} {p1 : Int32} {p2 : Int32} : am_okc 60 [.ref p0, .int p1, .int p2] = true := am_okc_of m60 rfl
theorem m61 : am_M[61]? = some (yX7_inMutiny, cX7_inMutiny, 1, (some .boolean), 7) := by rfl
theorem en61 {p0 : Nat} : am_en 61 [.ref p0] = [.ref p0] := am_en_of m61
theorem ok61 {p0 : Nat} : am_okc 61 [.ref p0] = true := am_okc_of m61 rfl
theorem m62 : am_M[62]? = some (yX7_copyFrom, cX7_copyFrom, 2, none, 7) := by rfl
theorem en62 {p0 : Nat} {p1 : Nat} : am_en 62 [.ref p0, .ref p1] = [.ref p0, .ref p1] := am_en_of m62
theorem ok62 {p0 : Nat} {p1 : Nat} : am_okc 62 [.ref p0, .ref p1] = true := am_okc_of m62 rfl
theorem m63 : am_M[63]? = some (yX8_init, cX8_init, 1, none, 8) := by rfl
theorem en63 {p0 : Nat} : am_en 63 [.ref p0] = [.ref p0] := am_en_of m63
theorem ok63 {p0 : Nat} : am_okc 63 [.ref p0] = true := am_okc_of m63 rfl
theorem m64 : am_M[64]? = some (yX8_tellWants, cX8_tellWants, 7, none, 8) := by rfl
theorem en64 {p0 : Nat} {p1 : Nat} {p2 : Int32} {p3 : Int32} : am_en 64 [.ref p0, .ref p1, .int p2, .int p3] = [.ref p0, .ref p1, .int p2, .int p3, am_jk, am_jk, am_jk] := am_en_of m64
theorem ok64 {p0 : Nat} {p1 : Nat} {p2 : Int32} {p3 : Int32} : am_okc 64 [.ref p0, .ref p1, .int p2, .int p3] = true := am_okc_of m64 rfl
theorem m65 : am_M[65]? = some (yX8_share, cX8_share, 5, none, 8) := by rfl
theorem en65 {p0 : Nat} {p1 : Int32} : am_en 65 [.ref p0, .int p1] = [.ref p0, .int p1, am_jk, am_jk, am_jk] := am_en_of m65
theorem ok65 {p0 : Nat} {p1 : Int32} : am_okc 65 [.ref p0, .int p1] = true := am_okc_of m65 rfl
theorem m66 : am_M[66]? = some (yX8_shareIn, cX8_shareIn, 6, (some .int), 8) := by rfl
theorem en66 {p0 : Nat} {p1 : Int32} {p2 : Int32} : am_en 66 [.ref p0, .int p1, .int p2] = [.ref p0, .int p1, .int p2, am_jk, am_jk, am_jk] := am_en_of m66
theorem ok66 {p0 : Nat} {p1 : Int32} {p2 : Int32} : am_okc 66 [.ref p0, .int p1, .int p2] = true := am_okc_of m66 rfl
theorem m67 : am_M[67]? = some (yX8_settle, cX8_settle, 3, none, 8) := by rfl
theorem en67 {p0 : Nat} {p1 : Nat} : am_en 67 [.ref p0, .ref p1] = [.ref p0, .ref p1, am_jk] := am_en_of m67
theorem ok67 {p0 : Nat} {p1 : Nat} : am_okc 67 [.ref p0, .ref p1] = true := am_okc_of m67 rfl
theorem m68 : am_M[68]? = some (yX9_init, cX9_init, 3, none, 9) := by rfl
theorem en68 {p0 : Nat} {p1 : Int32} {p2 : Nat} : am_en 68 [.ref p0, .int p1, .ref p2] = [.ref p0, .int p1, .ref p2] := am_en_of m68
theorem ok68 {p0 : Nat} {p1 : Int32} {p2 : Nat} : am_okc 68 [.ref p0, .int p1, .ref p2] = true := am_okc_of m68 rfl
theorem m69 : am_M[69]? = some (yX9_firstOf, cX9_firstOf, 5, (some .int), 9) := by rfl
theorem en69 {p0 : Nat} {p1 : Int32} {p2 : Nat} {p3 : Int32} : am_en 69 [.ref p0, .int p1, .ref p2, .int p3] = [.ref p0, .int p1, .ref p2, .int p3, am_jk] := am_en_of m69
theorem ok69 {p0 : Nat} {p1 : Int32} {p2 : Nat} {p3 : Int32} : am_okc 69 [.ref p0, .int p1, .ref p2, .int p3] = true := am_okc_of m69 rfl
theorem m70 : am_M[70]? = some (yX9_rankOf, cX9_rankOf, 4, (some .int), 9) := by rfl
theorem en70 {p0 : Nat} {p1 : Nat} {p2 : Int32} : am_en 70 [.ref p0, .ref p1, .int p2] = [.ref p0, .ref p1, .int p2, am_jk] := am_en_of m70
theorem ok70 {p0 : Nat} {p1 : Nat} {p2 : Int32} : am_okc 70 [.ref p0, .ref p1, .int p2] = true := am_okc_of m70 rfl
theorem m71 : am_M[71]? = some (yX9_cutOf, cX9_cutOf, 4, (some .int), 9) := by rfl
theorem en71 {p0 : Nat} {p1 : Nat} {p2 : Int32} : am_en 71 [.ref p0, .ref p1, .int p2] = [.ref p0, .ref p1, .int p2, am_jk] := am_en_of m71
theorem ok71 {p0 : Nat} {p1 : Nat} {p2 : Int32} : am_okc 71 [.ref p0, .ref p1, .int p2] = true := am_okc_of m71 rfl
theorem m72 : am_M[72]? = some (yX9_bars, cX9_bars, 3, (some .boolean), 9) := by rfl
theorem en72 {p0 : Nat} {p1 : Nat} {p2 : Int32} : am_en 72 [.ref p0, .ref p1, .int p2] = [.ref p0, .ref p1, .int p2] := am_en_of m72
theorem ok72 {p0 : Nat} {p1 : Nat} {p2 : Int32} : am_okc 72 [.ref p0, .ref p1, .int p2] = true := am_okc_of m72 rfl
theorem m73 : am_M[73]? = some (yX9_fallsOf, cX9_fallsOf, 3, (some .int), 9) := by rfl
theorem en73 {p0 : Nat} {p1 : Nat} {p2 : Int32} : am_en 73 [.ref p0, .ref p1, .int p2] = [.ref p0, .ref p1, .int p2] := am_en_of m73
theorem ok73 {p0 : Nat} {p1 : Nat} {p2 : Int32} : am_okc 73 [.ref p0, .ref p1, .int p2] = true := am_okc_of m73 rfl
theorem m74 : am_M[74]? = some (yX9_cutSum, cX9_cutSum, 3, (some .int), 9) := by rfl
theorem en74 {p0 : Nat} {p1 : Nat} {p2 : Int32} : am_en 74 [.ref p0, .ref p1, .int p2] = [.ref p0, .ref p1, .int p2] := am_en_of m74
theorem ok74 {p0 : Nat} {p1 : Nat} {p2 : Int32} : am_okc 74 [.ref p0, .ref p1, .int p2] = true := am_okc_of m74 rfl
theorem m75 : am_M[75]? = some (yX9_latestNumber, cX9_latestNumber, 4, (some .int), 9) := by rfl
theorem en75 {p0 : Nat} {p1 : Int32} {p2 : Int32} : am_en 75 [.ref p0, .int p1, .int p2] = [.ref p0, .int p1, .int p2, am_jk] := am_en_of m75
theorem ok75 {p0 : Nat} {p1 : Int32} {p2 : Int32} : am_okc 75 [.ref p0, .int p1, .int p2] = true := am_okc_of m75 rfl
theorem m76 : am_M[76]? = some (yX10_init, cX10_init, 1, none, 10) := by rfl
theorem en76 {p0 : Nat} : am_en 76 [.ref p0] = [.ref p0] := am_en_of m76
theorem ok76 {p0 : Nat} : am_okc 76 [.ref p0] = true := am_okc_of m76 rfl
theorem m77 : am_M[77]? = some (yX10_append, cX10_append, 2, none, 10) := by rfl
theorem en77 {p0 : Nat} {p1 : Int32} : am_en 77 [.ref p0, .int p1] = [.ref p0, .int p1] := am_en_of m77
theorem ok77 {p0 : Nat} {p1 : Int32} : am_okc 77 [.ref p0, .int p1] = true := am_okc_of m77 rfl
theorem m78 : am_M[78]? = some (yX10_readText, cX10_readText, 2, (some .boolean), 10) := by rfl
theorem en78 {p0 : Nat} : am_en 78 [.ref p0] = [.ref p0, am_jk] := am_en_of m78
theorem ok78 {p0 : Nat} : am_okc 78 [.ref p0] = true := am_okc_of m78 rfl
theorem m79 : am_M[79]? = some (yX10_takeLines, cX10_takeLines, 3, (some (.array (.object "DebtCouncil$Line"))), 10) := by rfl
theorem en79 {p0 : Nat} : am_en 79 [.ref p0] = [.ref p0, am_jk, am_jk] := am_en_of m79
theorem ok79 {p0 : Nat} : am_okc 79 [.ref p0] = true := am_okc_of m79 rfl
theorem m80 : am_M[80]? = some (yX10_advance, cX10_advance, 2, none, 10) := by rfl
theorem en80 {p0 : Nat} : am_en 80 [.ref p0] = [.ref p0, am_jk] := am_en_of m80
theorem ok80 {p0 : Nat} : am_okc 80 [.ref p0] = true := am_okc_of m80 rfl
theorem m81 : am_M[81]? = some (yX10_isLetter, cX10_isLetter, 1, (some .boolean), 10) := by rfl
theorem en81 {p0 : Int32} : am_en 81 [.int p0] = [.int p0] := am_en_of m81
theorem ok81 {p0 : Int32} : am_okc 81 [.int p0] = true := am_okc_of m81 rfl
theorem m82 : am_M[82]? = some (yX10_isDigit, cX10_isDigit, 1, (some .boolean), 10) := by rfl
theorem en82 {p0 : Int32} : am_en 82 [.int p0] = [.int p0] := am_en_of m82
theorem ok82 {p0 : Int32} : am_okc 82 [.int p0] = true := am_okc_of m82 rfl
theorem m83 : am_M[83]? = some (yX10_isName, cX10_isName, 3, (some .boolean), 10) := by rfl
theorem en83 {p0 : Nat} {p1 : Nat} : am_en 83 [.ref p0, .ref p1] = [.ref p0, .ref p1, am_jk] := am_en_of m83
theorem ok83 {p0 : Nat} {p1 : Nat} : am_okc 83 [.ref p0, .ref p1] = true := am_okc_of m83 rfl
theorem m84 : am_M[84]? = some (yX10_isOther, cX10_isOther, 2, (some .boolean), 10) := by rfl
theorem en84 {p0 : Nat} {p1 : Int32} : am_en 84 [.ref p0, .int p1] = [.ref p0, .int p1] := am_en_of m84
theorem ok84 {p0 : Nat} {p1 : Int32} : am_okc 84 [.ref p0, .int p1] = true := am_okc_of m84 rfl
theorem m85 : am_M[85]? = some (yX10_isNumberUpTo, cX10_isNumberUpTo, 2, (some .boolean), 10) := by rfl
theorem en85 {p0 : Nat} {p1 : Int32} : am_en 85 [.ref p0, .int p1] = [.ref p0, .int p1] := am_en_of m85
theorem ok85 {p0 : Nat} {p1 : Int32} : am_okc 85 [.ref p0, .int p1] = true := am_okc_of m85 rfl
theorem m86 : am_M[86]? = some (yX10_readLine, cX10_readLine, 5, (some .boolean), 10) := by rfl
theorem en86 {p0 : Nat} : am_en 86 [.ref p0] = [.ref p0, am_jk, am_jk, am_jk, am_jk] := am_en_of m86
theorem ok86 {p0 : Nat} : am_okc 86 [.ref p0] = true := am_okc_of m86 rfl
theorem m87 : am_M[87]? = some (yX10_mayHaveCond, cX10_mayHaveCond, 1, (some .boolean), 10) := by rfl
theorem en87 {p0 : Int32} : am_en 87 [.int p0] = [.int p0] := am_en_of m87
theorem ok87 {p0 : Int32} : am_okc 87 [.int p0] = true := am_okc_of m87 rfl
theorem m88 : am_M[88]? = some (yX10_lineSort, cX10_lineSort, 1, (some .int), 10) := by rfl
theorem en88 {p0 : Nat} : am_en 88 [.ref p0] = [.ref p0] := am_en_of m88
theorem ok88 {p0 : Nat} : am_okc 88 [.ref p0] = true := am_okc_of m88 rfl
theorem m89 : am_M[89]? = some (yX10_mostOf, cX10_mostOf, 1, (some .int), 10) := by rfl
theorem en89 {p0 : Int32} : am_en 89 [.int p0] = [.int p0] := am_en_of m89
theorem ok89 {p0 : Int32} : am_okc 89 [.int p0] = true := am_okc_of m89 rfl
theorem m90 : am_M[90]? = some (yX10_readTakeSort, cX10_readTakeSort, 2, (some .int), 10) := by rfl
theorem en90 {p0 : Nat} : am_en 90 [.ref p0] = [.ref p0, am_jk] := am_en_of m90
theorem ok90 {p0 : Nat} : am_okc 90 [.ref p0] = true := am_okc_of m90 rfl
theorem m91 : am_M[91]? = some (yX10_revenueSort, cX10_revenueSort, 1, (some .int), 10) := by rfl
theorem en91 {p0 : Nat} : am_en 91 [.ref p0] = [.ref p0] := am_en_of m91
theorem ok91 {p0 : Nat} : am_okc 91 [.ref p0] = true := am_okc_of m91 rfl
theorem m92 : am_M[92]? = some (yX10_factNamed, cX10_factNamed, 1, (some .int), 10) := by rfl
theorem en92 {p0 : Nat} : am_en 92 [.ref p0] = [.ref p0] := am_en_of m92
theorem ok92 {p0 : Nat} : am_okc 92 [.ref p0] = true := am_okc_of m92 rfl
theorem m93 : am_M[93]? = some (yX10_addStep, cX10_addStep, 2, none, 10) := by rfl
theorem en93 {p0 : Nat} {p1 : Int32} : am_en 93 [.ref p0, .int p1] = [.ref p0, .int p1] := am_en_of m93
theorem ok93 {p0 : Nat} {p1 : Int32} : am_okc 93 [.ref p0, .int p1] = true := am_okc_of m93 rfl
theorem m94 : am_M[94]? = some (yX10_readCond, cX10_readCond, 3, (some .boolean), 10) := by rfl
theorem en94 {p0 : Nat} {p1 : Int32} : am_en 94 [.ref p0, .int p1] = [.ref p0, .int p1, am_jk] := am_en_of m94
theorem ok94 {p0 : Nat} {p1 : Int32} : am_okc 94 [.ref p0, .int p1] = true := am_okc_of m94 rfl
theorem m95 : am_M[95]? = some (yX10_readAll, cX10_readAll, 3, (some .boolean), 10) := by rfl
theorem en95 {p0 : Nat} {p1 : Int32} : am_en 95 [.ref p0, .int p1] = [.ref p0, .int p1, am_jk] := am_en_of m95
theorem ok95 {p0 : Nat} {p1 : Int32} : am_okc 95 [.ref p0, .int p1] = true := am_okc_of m95 rfl
theorem m96 : am_M[96]? = some (yX10_readOne, cX10_readOne, 4, (some .boolean), 10) := by rfl
theorem en96 {p0 : Nat} {p1 : Int32} : am_en 96 [.ref p0, .int p1] = [.ref p0, .int p1, am_jk, am_jk] := am_en_of m96
theorem ok96 {p0 : Nat} {p1 : Int32} : am_okc 96 [.ref p0, .int p1] = true := am_okc_of m96 rfl
theorem m97 : am_M[97]? = some (yX10_readInner, cX10_readInner, 2, (some .boolean), 10) := by rfl
theorem en97 {p0 : Nat} {p1 : Int32} : am_en 97 [.ref p0, .int p1] = [.ref p0, .int p1] := am_en_of m97
theorem ok97 {p0 : Nat} {p1 : Int32} : am_okc 97 [.ref p0, .int p1] = true := am_okc_of m97 rfl
theorem m98 : am_M[98]? = some (yX10_readPlain, cX10_readPlain, 4, (some .boolean), 10) := by rfl
theorem en98 {p0 : Nat} : am_en 98 [.ref p0] = [.ref p0, am_jk, am_jk, am_jk] := am_en_of m98
theorem ok98 {p0 : Nat} : am_okc 98 [.ref p0] = true := am_okc_of m98 rfl
theorem m99 : am_M[99]? = some (yX11_init, cX11_init, 1, none, 11) := by rfl
theorem en99 {p0 : Nat} : am_en 99 [.ref p0] = [.ref p0] := am_en_of m99
theorem ok99 {p0 : Nat} : am_okc 99 [.ref p0] = true := am_okc_of m99 rfl
theorem m100 : am_M[100]? = some (yX11_within, cX11_within, 3, (some .boolean), 11) := by rfl
theorem en100 {p0 : Int32} {p1 : Int32} {p2 : Int32} : am_en 100 [.int p0, .int p1, .int p2] = [.int p0, .int p1, .int p2] := am_en_of m100
theorem ok100 {p0 : Int32} {p1 : Int32} {p2 : Int32} : am_okc 100 [.int p0, .int p1, .int p2] = true := am_okc_of m100 rfl
theorem m101 : am_M[101]? = some (yX11_isMonth, cX11_isMonth, 1, (some .boolean), 11) := by rfl
theorem en101 {p0 : Int32} : am_en 101 [.int p0] = [.int p0] := am_en_of m101
theorem ok101 {p0 : Int32} : am_okc 101 [.int p0] = true := am_okc_of m101 rfl
theorem m102 : am_M[102]? = some (yX11_isSort, cX11_isSort, 1, (some .boolean), 11) := by rfl
theorem en102 {p0 : Int32} : am_en 102 [.int p0] = [.int p0] := am_en_of m102
theorem ok102 {p0 : Int32} : am_okc 102 [.int p0] = true := am_okc_of m102 rfl
theorem m103 : am_M[103]? = some (yX11_isHouse, cX11_isHouse, 1, (some .boolean), 11) := by rfl
theorem en103 {p0 : Int32} : am_en 103 [.int p0] = [.int p0] := am_en_of m103
theorem ok103 {p0 : Int32} : am_okc 103 [.int p0] = true := am_okc_of m103 rfl
theorem m104 : am_M[104]? = some (yX11_isSum, cX11_isSum, 1, (some .boolean), 11) := by rfl
theorem en104 {p0 : Int32} : am_en 104 [.int p0] = [.int p0] := am_en_of m104
theorem ok104 {p0 : Int32} : am_okc 104 [.int p0] = true := am_okc_of m104 rfl
theorem m105 : am_M[105]? = some (yX11_isEvery, cX11_isEvery, 1, (some .boolean), 11) := by rfl
theorem en105 {p0 : Int32} : am_en 105 [.int p0] = [.int p0] := am_en_of m105
theorem ok105 {p0 : Int32} : am_okc 105 [.int p0] = true := am_okc_of m105 rfl
theorem m106 : am_M[106]? = some (yX11_isSheet, cX11_isSheet, 1, (some .boolean), 11) := by rfl
theorem en106 {p0 : Int32} : am_en 106 [.int p0] = [.int p0] := am_en_of m106
theorem ok106 {p0 : Int32} : am_okc 106 [.int p0] = true := am_okc_of m106 rfl
theorem m107 : am_M[107]? = some (yX11_isShelf, cX11_isShelf, 1, (some .boolean), 11) := by rfl
theorem en107 {p0 : Int32} : am_en 107 [.int p0] = [.int p0] := am_en_of m107
theorem ok107 {p0 : Int32} : am_okc 107 [.int p0] = true := am_okc_of m107 rfl
theorem m108 : am_M[108]? = some (yX11_months, cX11_months, 3, (some .int), 11) := by rfl
theorem en108 {p0 : Nat} {p1 : Int32} : am_en 108 [.ref p0, .int p1] = [.ref p0, .int p1, am_jk] := am_en_of m108
theorem ok108 {p0 : Nat} {p1 : Int32} : am_okc 108 [.ref p0, .int p1] = true := am_okc_of m108 rfl
theorem m109 : am_M[109]? = some (yX11_goOn, cX11_goOn, 2, none, 11) := by rfl
theorem en109 {p0 : Nat} : am_en 109 [.ref p0] = [.ref p0, am_jk] := am_en_of m109
theorem ok109 {p0 : Nat} : am_okc 109 [.ref p0] = true := am_okc_of m109 rfl
theorem m110 : am_M[110]? = some (yX11_province, cX11_province, 3, (some .int), 11) := by rfl
theorem en110 {p0 : Nat} {p1 : Int32} {p2 : Int32} : am_en 110 [.ref p0, .int p1, .int p2] = [.ref p0, .int p1, .int p2] := am_en_of m110
theorem ok110 {p0 : Nat} {p1 : Int32} {p2 : Int32} : am_okc 110 [.ref p0, .int p1, .int p2] = true := am_okc_of m110 rfl
theorem m111 : am_M[111]? = some (yX11_yield1, cX11_yield1, 6, (some .int), 11) := by rfl
theorem en111 {p0 : Nat} {p1 : Int32} {p2 : Int32} {p3 : Int32} : am_en 111 [.ref p0, .int p1, .int p2, .int p3] = [.ref p0, .int p1, .int p2, .int p3, am_jk, am_jk] := am_en_of m111
theorem ok111 {p0 : Nat} {p1 : Int32} {p2 : Int32} {p3 : Int32} : am_okc 111 [.ref p0, .int p1, .int p2, .int p3] = true := am_okc_of m111 rfl
theorem m112 : am_M[112]? = some (yX11_yields, cX11_yields, 6, (some .int), 11) := by rfl
theorem en112 {p0 : Nat} {p1 : Int32} {p2 : Int32} {p3 : Int32} : am_en 112 [.ref p0, .int p1, .int p2, .int p3] = [.ref p0, .int p1, .int p2, .int p3, am_jk, am_jk] := am_en_of m112
theorem ok112 {p0 : Nat} {p1 : Int32} {p2 : Int32} {p3 : Int32} : am_okc 112 [.ref p0, .int p1, .int p2, .int p3] = true := am_okc_of m112 rfl
theorem m113 : am_M[113]? = some (yX11_guards, cX11_guards, 4, (some .int), 11) := by rfl
theorem en113 {p0 : Nat} {p1 : Int32} {p2 : Int32} : am_en 113 [.ref p0, .int p1, .int p2] = [.ref p0, .int p1, .int p2, am_jk] := am_en_of m113
theorem ok113 {p0 : Nat} {p1 : Int32} {p2 : Int32} : am_okc 113 [.ref p0, .int p1, .int p2] = true := am_okc_of m113 rfl
theorem m114 : am_M[114]? = some (yX11_rate, cX11_rate, 4, (some .int), 11) := by rfl
theorem en114 {p0 : Nat} {p1 : Int32} {p2 : Int32} : am_en 114 [.ref p0, .int p1, .int p2] = [.ref p0, .int p1, .int p2, am_jk] := am_en_of m114
theorem ok114 {p0 : Nat} {p1 : Int32} {p2 : Int32} : am_okc 114 [.ref p0, .int p1, .int p2] = true := am_okc_of m114 rfl
theorem m115 : am_M[115]? = some (yX11_harvest, cX11_harvest, 4, (some .int), 11) := by rfl
theorem en115 {p0 : Nat} {p1 : Int32} {p2 : Int32} : am_en 115 [.ref p0, .int p1, .int p2] = [.ref p0, .int p1, .int p2, am_jk] := am_en_of m115
theorem ok115 {p0 : Nat} {p1 : Int32} {p2 : Int32} : am_okc 115 [.ref p0, .int p1, .int p2] = true := am_okc_of m115 rfl
theorem m116 : am_M[116]? = some (yX11_gather, cX11_gather, 8, (some .int), 11) := by rfl
theorem en116 {p0 : Nat} {p1 : Int32} {p2 : Int32} {p3 : Int32} {p4 : Int32} : am_en 116 [.ref p0, .int p1, .int p2, .int p3, .int p4] = [.ref p0, .int p1, .int p2, .int p3, .int p4, am_jk, am_jk, am_jk] := am_en_of m116
theorem ok116 {p0 : Nat} {p1 : Int32} {p2 : Int32} {p3 : Int32} {p4 : Int32} : am_okc 116 [.ref p0, .int p1, .int p2, .int p3, .int p4] = true := am_okc_of m116 rfl
theorem m117 : am_M[117]? = some (yX11_bestRate, cX11_bestRate, 8, (some .int), 11) := by rfl
theorem en117 {p0 : Nat} {p1 : Int32} {p2 : Int32} {p3 : Int32} : am_en 117 [.ref p0, .int p1, .int p2, .int p3] = [.ref p0, .int p1, .int p2, .int p3, am_jk, am_jk, am_jk, am_jk] := am_en_of m117
theorem ok117 {p0 : Nat} {p1 : Int32} {p2 : Int32} {p3 : Int32} : am_okc 117 [.ref p0, .int p1, .int p2, .int p3] = true := am_okc_of m117 rfl
theorem m118 : am_M[118]? = some (yX11_least, cX11_least, 6, (some .int), 11) := by rfl
theorem en118 {p0 : Nat} {p1 : Int32} {p2 : Int32} {p3 : Int32} : am_en 118 [.ref p0, .int p1, .int p2, .int p3] = [.ref p0, .int p1, .int p2, .int p3, am_jk, am_jk] := am_en_of m118
theorem ok118 {p0 : Nat} {p1 : Int32} {p2 : Int32} {p3 : Int32} : am_okc 118 [.ref p0, .int p1, .int p2, .int p3] = true := am_okc_of m118 rfl
theorem m119 : am_M[119]? = some (yX11_tellLeastFrom, cX11_tellLeastFrom, 8, none, 11) := by rfl
theorem en119 {p0 : Nat} {p1 : Int32} {p2 : Int32} : am_en 119 [.ref p0, .int p1, .int p2] = [.ref p0, .int p1, .int p2, am_jk, am_jk, am_jk, am_jk, am_jk] := am_en_of m119
theorem ok119 {p0 : Nat} {p1 : Int32} {p2 : Int32} : am_okc 119 [.ref p0, .int p1, .int p2] = true := am_okc_of m119 rfl
theorem m120 : am_M[120]? = some (yX11_laidTo, cX11_laidTo, 7, (some .int), 11) := by rfl
theorem en120 {p0 : Nat} {p1 : Int32} {p2 : Int32} {p3 : Int32} : am_en 120 [.ref p0, .int p1, .int p2, .int p3] = [.ref p0, .int p1, .int p2, .int p3, am_jk, am_jk, am_jk] := am_en_of m120
theorem ok120 {p0 : Nat} {p1 : Int32} {p2 : Int32} {p3 : Int32} : am_okc 120 [.ref p0, .int p1, .int p2, .int p3] = true := am_okc_of m120 rfl
theorem m121 : am_M[121]? = some (yX11_mostHere, cX11_mostHere, 7, (some .int), 11) := by rfl
theorem en121 {p0 : Nat} {p1 : Int32} {p2 : Int32} {p3 : Int32} : am_en 121 [.ref p0, .int p1, .int p2, .int p3] = [.ref p0, .int p1, .int p2, .int p3, am_jk, am_jk, am_jk] := am_en_of m121
theorem ok121 {p0 : Nat} {p1 : Int32} {p2 : Int32} {p3 : Int32} : am_okc 121 [.ref p0, .int p1, .int p2, .int p3] = true := am_okc_of m121 rfl
theorem m122 : am_M[122]? = some (yX11_provinceOf, cX11_provinceOf, 4, (some .int), 11) := by rfl
theorem en122 {p0 : Nat} {p1 : Int32} {p2 : Int32} : am_en 122 [.ref p0, .int p1, .int p2] = [.ref p0, .int p1, .int p2, am_jk] := am_en_of m122
theorem ok122 {p0 : Nat} {p1 : Int32} {p2 : Int32} : am_okc 122 [.ref p0, .int p1, .int p2] = true := am_okc_of m122 rfl
theorem m123 : am_M[123]? = some (yX11_debt, cX11_debt, 7, (some .int), 11) := by rfl
theorem en123 {p0 : Nat} {p1 : Int32} {p2 : Int32} {p3 : Int32} : am_en 123 [.ref p0, .int p1, .int p2, .int p3] = [.ref p0, .int p1, .int p2, .int p3, am_jk, am_jk, am_jk] := am_en_of m123
theorem ok123 {p0 : Nat} {p1 : Int32} {p2 : Int32} {p3 : Int32} : am_okc 123 [.ref p0, .int p1, .int p2, .int p3] = true := am_okc_of m123 rfl
theorem m124 : am_M[124]? = some (yX11_debtOf, cX11_debtOf, 6, (some .int), 11) := by rfl
theorem en124 {p0 : Nat} {p1 : Int32} {p2 : Int32} {p3 : Int32} : am_en 124 [.ref p0, .int p1, .int p2, .int p3] = [.ref p0, .int p1, .int p2, .int p3, am_jk, am_jk] := am_en_of m124
theorem ok124 {p0 : Nat} {p1 : Int32} {p2 : Int32} {p3 : Int32} : am_okc 124 [.ref p0, .int p1, .int p2, .int p3] = true := am_okc_of m124 rfl
theorem m125 : am_M[125]? = some (yX11_voids, cX11_voids, 2, (some .int), 11) := by rfl
theorem en125 {p0 : Nat} {p1 : Int32} : am_en 125 [.ref p0, .int p1] = [.ref p0, .int p1] := am_en_of m125
theorem ok125 {p0 : Nat} {p1 : Int32} : am_okc 125 [.ref p0, .int p1] = true := am_okc_of m125 rfl
theorem m126 : am_M[126]? = some (yX11_feed, cX11_feed, 5, (some .int), 11) := by rfl
theorem en126 {p0 : Nat} {p1 : Int64} {p2 : Int32} : am_en 126 [.ref p0, .long p1, .int p2] = [.ref p0, .long p1, am_jk, .int p2, am_jk] := am_en_of m126
theorem ok126 {p0 : Nat} {p1 : Int64} {p2 : Int32} : am_okc 126 [.ref p0, .long p1, .int p2] = true := am_okc_of m126 rfl
theorem m127 : am_M[127]? = some (yX11_read, cX11_read, 2, (some .int), 11) := by rfl
theorem en127 {p0 : Nat} : am_en 127 [.ref p0] = [.ref p0, am_jk] := am_en_of m127
theorem ok127 {p0 : Nat} : am_okc 127 [.ref p0] = true := am_okc_of m127 rfl
theorem m128 : am_M[128]? = some (yX11_line, cX11_line, 5, (some .int), 11) := by rfl
theorem en128 {p0 : Nat} {p1 : Int32} {p2 : Int32} {p3 : Int32} : am_en 128 [.ref p0, .int p1, .int p2, .int p3] = [.ref p0, .int p1, .int p2, .int p3, am_jk] := am_en_of m128
theorem ok128 {p0 : Nat} {p1 : Int32} {p2 : Int32} {p3 : Int32} : am_okc 128 [.ref p0, .int p1, .int p2, .int p3] = true := am_okc_of m128 rfl
theorem m129 : am_M[129]? = some (yX11_why, cX11_why, 5, (some .int), 11) := by rfl
theorem en129 {p0 : Nat} {p1 : Int32} {p2 : Int32} {p3 : Int32} : am_en 129 [.ref p0, .int p1, .int p2, .int p3] = [.ref p0, .int p1, .int p2, .int p3, am_jk] := am_en_of m129
theorem ok129 {p0 : Nat} {p1 : Int32} {p2 : Int32} {p3 : Int32} : am_okc 129 [.ref p0, .int p1, .int p2, .int p3] = true := am_okc_of m129 rfl
theorem m130 : am_M[130]? = some (yX11_gets, cX11_gets, 4, (some .int), 11) := by rfl
theorem en130 {p0 : Nat} {p1 : Int32} {p2 : Int32} {p3 : Int32} : am_en 130 [.ref p0, .int p1, .int p2, .int p3] = [.ref p0, .int p1, .int p2, .int p3] := am_en_of m130
theorem ok130 {p0 : Nat} {p1 : Int32} {p2 : Int32} {p3 : Int32} : am_okc 130 [.ref p0, .int p1, .int p2, .int p3] = true := am_okc_of m130 rfl
theorem m131 : am_M[131]? = some (yX11_lag, cX11_lag, 4, (some .int), 11) := by rfl
theorem en131 {p0 : Nat} {p1 : Int32} {p2 : Int32} : am_en 131 [.ref p0, .int p1, .int p2] = [.ref p0, .int p1, .int p2, am_jk] := am_en_of m131
theorem ok131 {p0 : Nat} {p1 : Int32} {p2 : Int32} : am_okc 131 [.ref p0, .int p1, .int p2] = true := am_okc_of m131 rfl
theorem m132 : am_M[132]? = some (yX11_knows, cX11_knows, 3, (some .int), 11) := by rfl
theorem en132 {p0 : Nat} {p1 : Int32} {p2 : Int32} : am_en 132 [.ref p0, .int p1, .int p2] = [.ref p0, .int p1, .int p2] := am_en_of m132
theorem ok132 {p0 : Nat} {p1 : Int32} {p2 : Int32} : am_okc 132 [.ref p0, .int p1, .int p2] = true := am_okc_of m132 rfl
theorem m133 : am_M[133]? = some (yX11_swap, cX11_swap, 5, (some .int), 11) := by rfl
theorem en133 {p0 : Nat} {p1 : Int32} {p2 : Int32} {p3 : Int32} : am_en 133 [.ref p0, .int p1, .int p2, .int p3] = [.ref p0, .int p1, .int p2, .int p3, am_jk] := am_en_of m133
theorem ok133 {p0 : Nat} {p1 : Int32} {p2 : Int32} {p3 : Int32} : am_okc 133 [.ref p0, .int p1, .int p2, .int p3] = true := am_okc_of m133 rfl
theorem m134 : am_M[134]? = some (yX11_offer, cX11_offer, 6, (some .int), 11) := by rfl
theorem en134 {p0 : Nat} {p1 : Int32} {p2 : Int32} : am_en 134 [.ref p0, .int p1, .int p2] = [.ref p0, .int p1, .int p2, am_jk, am_jk, am_jk] := am_en_of m134
theorem ok134 {p0 : Nat} {p1 : Int32} {p2 : Int32} : am_okc 134 [.ref p0, .int p1, .int p2] = true := am_okc_of m134 rfl
theorem m135 : am_M[135]? = some (yX11_railway, cX11_railway, 5, (some .int), 11) := by rfl
theorem en135 {p0 : Nat} {p1 : Int32} {p2 : Int32} {p3 : Int32} : am_en 135 [.ref p0, .int p1, .int p2, .int p3] = [.ref p0, .int p1, .int p2, .int p3, am_jk] := am_en_of m135
theorem ok135 {p0 : Nat} {p1 : Int32} {p2 : Int32} {p3 : Int32} : am_okc 135 [.ref p0, .int p1, .int p2, .int p3] = true := am_okc_of m135 rfl
theorem m136 : am_M[136]? = some (yX11_railwayOf, cX11_railwayOf, 7, (some .int), 11) := by rfl
theorem en136 {p0 : Nat} {p1 : Int32} {p2 : Int32} : am_en 136 [.ref p0, .int p1, .int p2] = [.ref p0, .int p1, .int p2, am_jk, am_jk, am_jk, am_jk] := am_en_of m136
theorem ok136 {p0 : Nat} {p1 : Int32} {p2 : Int32} : am_okc 136 [.ref p0, .int p1, .int p2] = true := am_okc_of m136 rfl
theorem m137 : am_M[137]? = some (yX11_bearsFrom, cX11_bearsFrom, 4, (some .int), 11) := by rfl
theorem en137 {p0 : Int32} {p1 : Int32} : am_en 137 [.int p0, .int p1] = [.int p0, .int p1, am_jk, am_jk] := am_en_of m137
theorem ok137 {p0 : Int32} {p1 : Int32} : am_okc 137 [.int p0, .int p1] = true := am_okc_of m137 rfl
theorem m138 : am_M[138]? = some (yX11_paper, cX11_paper, 6, (some .int), 11) := by rfl
theorem en138 {p0 : Nat} {p1 : Int32} {p2 : Int32} {p3 : Int32} {p4 : Int32} : am_en 138 [.ref p0, .int p1, .int p2, .int p3, .int p4] = [.ref p0, .int p1, .int p2, .int p3, .int p4, am_jk] := am_en_of m138
theorem ok138 {p0 : Nat} {p1 : Int32} {p2 : Int32} {p3 : Int32} {p4 : Int32} : am_okc 138 [.ref p0, .int p1, .int p2, .int p3, .int p4] = true := am_okc_of m138 rfl
theorem m139 : am_M[139]? = some (yX11_bills, cX11_bills, 2, (some .int), 11) := by rfl
theorem en139 {p0 : Nat} {p1 : Int32} : am_en 139 [.ref p0, .int p1] = [.ref p0, .int p1] := am_en_of m139
theorem ok139 {p0 : Nat} {p1 : Int32} : am_okc 139 [.ref p0, .int p1] = true := am_okc_of m139 rfl
theorem m140 : am_M[140]? = some (yX11_singlePapers, cX11_singlePapers, 3, (some .int), 11) := by rfl
theorem en140 {p0 : Nat} : am_en 140 [.ref p0] = [.ref p0, am_jk, am_jk] := am_en_of m140
theorem ok140 {p0 : Nat} : am_okc 140 [.ref p0] = true := am_okc_of m140 rfl
theorem m141 : am_M[141]? = some (yX11_taking, cX11_taking, 4, (some .int), 11) := by rfl
theorem en141 {p0 : Nat} {p1 : Int32} {p2 : Int32} : am_en 141 [.ref p0, .int p1, .int p2] = [.ref p0, .int p1, .int p2, am_jk] := am_en_of m141
theorem ok141 {p0 : Nat} {p1 : Int32} {p2 : Int32} : am_okc 141 [.ref p0, .int p1, .int p2] = true := am_okc_of m141 rfl
theorem m142 : am_M[142]? = some (yX11_takings, cX11_takings, 6, (some .int), 11) := by rfl
theorem en142 {p0 : Nat} {p1 : Int32} : am_en 142 [.ref p0, .int p1] = [.ref p0, .int p1, am_jk, am_jk, am_jk, am_jk] := am_en_of m142
theorem ok142 {p0 : Nat} {p1 : Int32} : am_okc 142 [.ref p0, .int p1] = true := am_okc_of m142 rfl
theorem m143 : am_M[143]? = some (yX11_choice, cX11_choice, 6, (some .int), 11) := by rfl
theorem en143 {p0 : Nat} {p1 : Int32} {p2 : Int32} {p3 : Int32} {p4 : Int32} : am_en 143 [.ref p0, .int p1, .int p2, .int p3, .int p4] = [.ref p0, .int p1, .int p2, .int p3, .int p4, am_jk] := am_en_of m143
theorem ok143 {p0 : Nat} {p1 : Int32} {p2 : Int32} {p3 : Int32} {p4 : Int32} : am_okc 143 [.ref p0, .int p1, .int p2, .int p3, .int p4] = true := am_okc_of m143 rfl
theorem m144 : am_M[144]? = some (yX11_choose, cX11_choose, 8, (some .int), 11) := by rfl
theorem en144 {p0 : Nat} {p1 : Int32} : am_en 144 [.ref p0, .int p1] = [.ref p0, .int p1, am_jk, am_jk, am_jk, am_jk, am_jk, am_jk] := am_en_of m144
theorem ok144 {p0 : Nat} {p1 : Int32} : am_okc 144 [.ref p0, .int p1] = true := am_okc_of m144 rfl
theorem m145 : am_M[145]? = some (yX11_leastYearOf, cX11_leastYearOf, 4, (some .int), 11) := by rfl
theorem en145 {p0 : Nat} {p1 : Int32} : am_en 145 [.ref p0, .int p1] = [.ref p0, .int p1, am_jk, am_jk] := am_en_of m145
theorem ok145 {p0 : Nat} {p1 : Int32} : am_okc 145 [.ref p0, .int p1] = true := am_okc_of m145 rfl
theorem m146 : am_M[146]? = some (yX11_leastYearWith, cX11_leastYearWith, 3, (some .int), 11) := by rfl
theorem en146 {p0 : Nat} {p1 : Int32} : am_en 146 [.ref p0, .int p1] = [.ref p0, .int p1, am_jk] := am_en_of m146
theorem ok146 {p0 : Nat} {p1 : Int32} : am_okc 146 [.ref p0, .int p1] = true := am_okc_of m146 rfl
theorem m147 : am_M[147]? = some (yX11_sinksOf, cX11_sinksOf, 4, (some .int), 11) := by rfl
theorem en147 {p0 : Nat} {p1 : Int32} : am_en 147 [.ref p0, .int p1] = [.ref p0, .int p1, am_jk, am_jk] := am_en_of m147
theorem ok147 {p0 : Nat} {p1 : Int32} : am_okc 147 [.ref p0, .int p1] = true := am_okc_of m147 rfl
theorem m148 : am_M[148]? = some (yX11_tellRows, cX11_tellRows, 4, none, 11) := by rfl
theorem en148 {p0 : Nat} {p1 : Int32} : am_en 148 [.ref p0, .int p1] = [.ref p0, .int p1, am_jk, am_jk] := am_en_of m148
theorem ok148 {p0 : Nat} {p1 : Int32} : am_okc 148 [.ref p0, .int p1] = true := am_okc_of m148 rfl
theorem m149 : am_M[149]? = some (yX11_row, cX11_row, 3, (some .int), 11) := by rfl
theorem en149 {p0 : Nat} {p1 : Int32} {p2 : Int32} : am_en 149 [.ref p0, .int p1, .int p2] = [.ref p0, .int p1, .int p2] := am_en_of m149
theorem ok149 {p0 : Nat} {p1 : Int32} {p2 : Int32} : am_okc 149 [.ref p0, .int p1, .int p2] = true := am_okc_of m149 rfl
theorem m150 : am_M[150]? = some (yX11_alterRow, cX11_alterRow, 5, (some .int), 11) := by rfl
theorem en150 {p0 : Nat} {p1 : Int32} {p2 : Int32} {p3 : Int32} : am_en 150 [.ref p0, .int p1, .int p2, .int p3] = [.ref p0, .int p1, .int p2, .int p3, am_jk] := am_en_of m150
theorem ok150 {p0 : Nat} {p1 : Int32} {p2 : Int32} {p3 : Int32} : am_okc 150 [.ref p0, .int p1, .int p2, .int p3] = true := am_okc_of m150 rfl
theorem m151 : am_M[151]? = some (yX11_dropRow, cX11_dropRow, 1, (some .int), 11) := by rfl
theorem en151 {p0 : Nat} : am_en 151 [.ref p0] = [.ref p0] := am_en_of m151
theorem ok151 {p0 : Nat} : am_okc 151 [.ref p0] = true := am_okc_of m151 rfl
theorem m152 : am_M[152]? = some (yX11_judge, cX11_judge, 6, (some .int), 11) := by rfl
theorem en152 {p0 : Nat} {p1 : Int32} : am_en 152 [.ref p0, .int p1] = [.ref p0, .int p1, am_jk, am_jk, am_jk, am_jk] := am_en_of m152
theorem ok152 {p0 : Nat} {p1 : Int32} : am_okc 152 [.ref p0, .int p1] = true := am_okc_of m152 rfl
theorem m153 : am_M[153]? = some (yX11_sheet, cX11_sheet, 4, (some .int), 11) := by rfl
theorem en153 {p0 : Nat} {p1 : Int32} {p2 : Int32} {p3 : Int32} : am_en 153 [.ref p0, .int p1, .int p2, .int p3] = [.ref p0, .int p1, .int p2, .int p3] := am_en_of m153
theorem ok153 {p0 : Nat} {p1 : Int32} {p2 : Int32} {p3 : Int32} : am_okc 153 [.ref p0, .int p1, .int p2, .int p3] = true := am_okc_of m153 rfl
theorem m154 : am_M[154]? = some (yX11_put, cX11_put, 5, (some .int), 11) := by rfl
theorem en154 {p0 : Nat} {p1 : Int32} {p2 : Int32} {p3 : Int32} : am_en 154 [.ref p0, .int p1, .int p2, .int p3] = [.ref p0, .int p1, .int p2, .int p3, am_jk] := am_en_of m154
theorem ok154 {p0 : Nat} {p1 : Int32} {p2 : Int32} {p3 : Int32} : am_okc 154 [.ref p0, .int p1, .int p2, .int p3] = true := am_okc_of m154 rfl
theorem m155 : am_M[155]? = some (yX11_item, cX11_item, 5, (some .int), 11) := by rfl
theorem en155 {p0 : Nat} {p1 : Int32} {p2 : Int32} {p3 : Int32} : am_en 155 [.ref p0, .int p1, .int p2, .int p3] = [.ref p0, .int p1, .int p2, .int p3, am_jk] := am_en_of m155
theorem ok155 {p0 : Nat} {p1 : Int32} {p2 : Int32} {p3 : Int32} : am_okc 155 [.ref p0, .int p1, .int p2, .int p3] = true := am_okc_of m155 rfl
theorem m156 : am_M[156]? = some (yX11_shelf, cX11_shelf, 4, (some .int), 11) := by rfl
theorem en156 {p0 : Nat} {p1 : Int32} {p2 : Int32} {p3 : Int32} : am_en 156 [.ref p0, .int p1, .int p2, .int p3] = [.ref p0, .int p1, .int p2, .int p3] := am_en_of m156
theorem ok156 {p0 : Nat} {p1 : Int32} {p2 : Int32} {p3 : Int32} : am_okc 156 [.ref p0, .int p1, .int p2, .int p3] = true := am_okc_of m156 rfl
theorem m157 : am_M[157]? = some (yX11_taken, cX11_taken, 5, (some .int), 11) := by rfl
theorem en157 {p0 : Nat} {p1 : Int32} {p2 : Int32} : am_en 157 [.ref p0, .int p1, .int p2] = [.ref p0, .int p1, .int p2, am_jk, am_jk] := am_en_of m157
theorem ok157 {p0 : Nat} {p1 : Int32} {p2 : Int32} : am_okc 157 [.ref p0, .int p1, .int p2] = true := am_okc_of m157 rfl
theorem m158 : am_M[158]? = some (yX11_kindOn, cX11_kindOn, 3, (some .int), 11) := by rfl
theorem en158 {p0 : Nat} {p1 : Int32} : am_en 158 [.ref p0, .int p1] = [.ref p0, .int p1, am_jk] := am_en_of m158
theorem ok158 {p0 : Nat} {p1 : Int32} : am_okc 158 [.ref p0, .int p1] = true := am_okc_of m158 rfl
theorem m159 : am_M[159]? = some (yX11_deal, cX11_deal, 6, (some .int), 11) := by rfl
theorem en159 {p0 : Nat} {p1 : Int32} {p2 : Int32} {p3 : Int32} : am_en 159 [.ref p0, .int p1, .int p2, .int p3] = [.ref p0, .int p1, .int p2, .int p3, am_jk, am_jk] := am_en_of m159
theorem ok159 {p0 : Nat} {p1 : Int32} {p2 : Int32} {p3 : Int32} : am_okc 159 [.ref p0, .int p1, .int p2, .int p3] = true := am_okc_of m159 rfl
theorem m160 : am_M[160]? = some (yX11_trace, cX11_trace, 2, (some .int), 11) := by rfl
theorem en160 {p0 : Nat} {p1 : Int32} : am_en 160 [.ref p0, .int p1] = [.ref p0, .int p1] := am_en_of m160
theorem ok160 {p0 : Nat} {p1 : Int32} : am_okc 160 [.ref p0, .int p1] = true := am_okc_of m160 rfl
theorem m161 : am_M[161]? = some (yX11_many, cX11_many, 2, (some .int), 11) := by rfl
theorem en161 {p0 : Nat} {p1 : Int32} : am_en 161 [.ref p0, .int p1] = [.ref p0, .int p1] := am_en_of m161
theorem ok161 {p0 : Nat} {p1 : Int32} : am_okc 161 [.ref p0, .int p1] = true := am_okc_of m161 rfl
theorem m162 : am_M[162]? = some (yX11_keep, cX11_keep, 1, (some .int), 11) := by rfl
theorem en162 {p0 : Nat} : am_en 162 [.ref p0] = [.ref p0] := am_en_of m162
theorem ok162 {p0 : Nat} : am_okc 162 [.ref p0] = true := am_okc_of m162 rfl
theorem m163 : am_M[163]? = some (yX11_again, cX11_again, 1, (some .int), 11) := by rfl
theorem en163 {p0 : Nat} : am_en 163 [.ref p0] = [.ref p0] := am_en_of m163
theorem ok163 {p0 : Nat} : am_okc 163 [.ref p0] = true := am_okc_of m163 rfl
theorem m164 : am_M[164]? = some (yX12_init, cX12_init, 2, none, 12) := by rfl
theorem en164 {p0 : Nat} : am_en 164 [.ref p0] = [.ref p0, am_jk] := am_en_of m164
theorem ok164 {p0 : Nat} : am_okc 164 [.ref p0] = true := am_okc_of m164 rfl
theorem m165 : am_M[165]? = some (yX12_is, cX12_is, 3, (some .boolean), 12) := by rfl
theorem en165 {p0 : Int32} {p1 : Int32} {p2 : Int32} : am_en 165 [.int p0, .int p1, .int p2] = [.int p0, .int p1, .int p2] := am_en_of m165
theorem ok165 {p0 : Int32} {p1 : Int32} {p2 : Int32} : am_okc 165 [.int p0, .int p1, .int p2] = true := am_okc_of m165 rfl
theorem m166 : am_M[166]? = some (yX12_isMonth, cX12_isMonth, 1, (some .boolean), 12) := by rfl
theorem en166 {p0 : Int32} : am_en 166 [.int p0] = [.int p0] := am_en_of m166
theorem ok166 {p0 : Int32} : am_okc 166 [.int p0] = true := am_okc_of m166 rfl
theorem m167 : am_M[167]? = some (yX12_isOne, cX12_isOne, 3, (some .boolean), 12) := by rfl
theorem en167 {p0 : Nat} {p1 : Int32} {p2 : Int32} : am_en 167 [.ref p0, .int p1, .int p2] = [.ref p0, .int p1, .int p2] := am_en_of m167
theorem ok167 {p0 : Nat} {p1 : Int32} {p2 : Int32} : am_okc 167 [.ref p0, .int p1, .int p2] = true := am_okc_of m167 rfl
theorem m168 : am_M[168]? = some (yX12_isMutiny, cX12_isMutiny, 2, (some .boolean), 12) := by rfl
theorem en168 {p0 : Nat} {p1 : Int32} : am_en 168 [.ref p0, .int p1] = [.ref p0, .int p1] := am_en_of m168
theorem ok168 {p0 : Nat} {p1 : Int32} : am_okc 168 [.ref p0, .int p1] = true := am_okc_of m168 rfl
theorem m169 : am_M[169]? = some (yX12_due, cX12_due, 5, (some .int), 12) := by rfl
theorem en169 {p0 : Nat} {p1 : Int32} {p2 : Int32} {p3 : Int32} {p4 : Int32} : am_en 169 [.ref p0, .int p1, .int p2, .int p3, .int p4] = [.ref p0, .int p1, .int p2, .int p3, .int p4] := am_en_of m169
theorem ok169 {p0 : Nat} {p1 : Int32} {p2 : Int32} {p3 : Int32} {p4 : Int32} : am_okc 169 [.ref p0, .int p1, .int p2, .int p3, .int p4] = true := am_okc_of m169 rfl
theorem m170 : am_M[170]? = some (yX12_round, cX12_round, 6, (some .int), 12) := by rfl
theorem en170 {p0 : Nat} {p1 : Int32} {p2 : Int32} {p3 : Int32} {p4 : Int32} {p5 : Int32} : am_en 170 [.ref p0, .int p1, .int p2, .int p3, .int p4, .int p5] = [.ref p0, .int p1, .int p2, .int p3, .int p4, .int p5] := am_en_of m170
theorem ok170 {p0 : Nat} {p1 : Int32} {p2 : Int32} {p3 : Int32} {p4 : Int32} {p5 : Int32} : am_okc 170 [.ref p0, .int p1, .int p2, .int p3, .int p4, .int p5] = true := am_okc_of m170 rfl
theorem m171 : am_M[171]? = some (yX12_gathered, cX12_gathered, 6, (some .int), 12) := by rfl
theorem en171 {p0 : Nat} {p1 : Int32} {p2 : Int32} {p3 : Int32} : am_en 171 [.ref p0, .int p1, .int p2, .int p3] = [.ref p0, .int p1, .int p2, .int p3, am_jk, am_jk] := am_en_of m171
theorem ok171 {p0 : Nat} {p1 : Int32} {p2 : Int32} {p3 : Int32} : am_okc 171 [.ref p0, .int p1, .int p2, .int p3] = true := am_okc_of m171 rfl
theorem m172 : am_M[172]? = some (yX12_province, cX12_province, 5, (some .int), 12) := by rfl
theorem en172 {p0 : Nat} {p1 : Int32} {p2 : Int32} : am_en 172 [.ref p0, .int p1, .int p2] = [.ref p0, .int p1, .int p2, am_jk, am_jk] := am_en_of m172
theorem ok172 {p0 : Nat} {p1 : Int32} {p2 : Int32} : am_okc 172 [.ref p0, .int p1, .int p2] = true := am_okc_of m172 rfl
theorem m173 : am_M[173]? = some (yX12_yield1, cX12_yield1, 5, (some .int), 12) := by rfl
theorem en173 {p0 : Nat} {p1 : Int32} {p2 : Int32} {p3 : Int32} : am_en 173 [.ref p0, .int p1, .int p2, .int p3] = [.ref p0, .int p1, .int p2, .int p3, am_jk] := am_en_of m173
theorem ok173 {p0 : Nat} {p1 : Int32} {p2 : Int32} {p3 : Int32} : am_okc 173 [.ref p0, .int p1, .int p2, .int p3] = true := am_okc_of m173 rfl
theorem m174 : am_M[174]? = some (yX12_yields, cX12_yields, 7, (some .int), 12) := by rfl
theorem en174 {p0 : Nat} {p1 : Int32} {p2 : Int32} {p3 : Int32} : am_en 174 [.ref p0, .int p1, .int p2, .int p3] = [.ref p0, .int p1, .int p2, .int p3, am_jk, am_jk, am_jk] := am_en_of m174
theorem ok174 {p0 : Nat} {p1 : Int32} {p2 : Int32} {p3 : Int32} : am_okc 174 [.ref p0, .int p1, .int p2, .int p3] = true := am_okc_of m174 rfl
theorem m175 : am_M[175]? = some (yX12_guards, cX12_guards, 4, (some .int), 12) := by rfl
theorem en175 {p0 : Nat} {p1 : Int32} {p2 : Int32} : am_en 175 [.ref p0, .int p1, .int p2] = [.ref p0, .int p1, .int p2, am_jk] := am_en_of m175
theorem ok175 {p0 : Nat} {p1 : Int32} {p2 : Int32} : am_okc 175 [.ref p0, .int p1, .int p2] = true := am_okc_of m175 rfl
theorem m176 : am_M[176]? = some (yX12_rate, cX12_rate, 4, (some .int), 12) := by rfl
theorem en176 {p0 : Nat} {p1 : Int32} {p2 : Int32} : am_en 176 [.ref p0, .int p1, .int p2] = [.ref p0, .int p1, .int p2, am_jk] := am_en_of m176
theorem ok176 {p0 : Nat} {p1 : Int32} {p2 : Int32} : am_okc 176 [.ref p0, .int p1, .int p2] = true := am_okc_of m176 rfl
theorem m177 : am_M[177]? = some (yX12_harvest, cX12_harvest, 4, (some .int), 12) := by rfl
theorem en177 {p0 : Nat} {p1 : Int32} {p2 : Int32} : am_en 177 [.ref p0, .int p1, .int p2] = [.ref p0, .int p1, .int p2, am_jk] := am_en_of m177
theorem ok177 {p0 : Nat} {p1 : Int32} {p2 : Int32} : am_okc 177 [.ref p0, .int p1, .int p2] = true := am_okc_of m177 rfl
theorem m178 : am_M[178]? = some (yX12_gather, cX12_gather, 7, (some .int), 12) := by rfl
theorem en178 {p0 : Nat} {p1 : Int32} {p2 : Int32} {p3 : Int32} {p4 : Int32} : am_en 178 [.ref p0, .int p1, .int p2, .int p3, .int p4] = [.ref p0, .int p1, .int p2, .int p3, .int p4, am_jk, am_jk] := am_en_of m178
theorem ok178 {p0 : Nat} {p1 : Int32} {p2 : Int32} {p3 : Int32} {p4 : Int32} : am_okc 178 [.ref p0, .int p1, .int p2, .int p3, .int p4] = true := am_okc_of m178 rfl
theorem m179 : am_M[179]? = some (yX12_bestRate, cX12_bestRate, 8, (some .int), 12) := by rfl
theorem en179 {p0 : Nat} {p1 : Int32} {p2 : Int32} {p3 : Int32} : am_en 179 [.ref p0, .int p1, .int p2, .int p3] = [.ref p0, .int p1, .int p2, .int p3, am_jk, am_jk, am_jk, am_jk] := am_en_of m179
theorem ok179 {p0 : Nat} {p1 : Int32} {p2 : Int32} {p3 : Int32} : am_okc 179 [.ref p0, .int p1, .int p2, .int p3] = true := am_okc_of m179 rfl
theorem m180 : am_M[180]? = some (yX12_goesRound, cX12_goesRound, 6, (some .int), 12) := by rfl
theorem en180 {p0 : Nat} {p1 : Int32} {p2 : Int32} {p3 : Int32} : am_en 180 [.ref p0, .int p1, .int p2, .int p3] = [.ref p0, .int p1, .int p2, .int p3, am_jk, am_jk] := am_en_of m180
theorem ok180 {p0 : Nat} {p1 : Int32} {p2 : Int32} {p3 : Int32} : am_okc 180 [.ref p0, .int p1, .int p2, .int p3] = true := am_okc_of m180 rfl
theorem m181 : am_M[181]? = some (yX12_least, cX12_least, 7, (some .int), 12) := by rfl
theorem en181 {p0 : Nat} {p1 : Int32} {p2 : Int32} {p3 : Int32} : am_en 181 [.ref p0, .int p1, .int p2, .int p3] = [.ref p0, .int p1, .int p2, .int p3, am_jk, am_jk, am_jk] := am_en_of m181
theorem ok181 {p0 : Nat} {p1 : Int32} {p2 : Int32} {p3 : Int32} : am_okc 181 [.ref p0, .int p1, .int p2, .int p3] = true := am_okc_of m181 rfl
theorem m182 : am_M[182]? = some (yX12_leastFrom, cX12_leastFrom, 8, (some .int), 12) := by rfl
theorem en182 {p0 : Nat} {p1 : Int32} {p2 : Int32} {p3 : Int32} : am_en 182 [.ref p0, .int p1, .int p2, .int p3] = [.ref p0, .int p1, .int p2, .int p3, am_jk, am_jk, am_jk, am_jk] := am_en_of m182
theorem ok182 {p0 : Nat} {p1 : Int32} {p2 : Int32} {p3 : Int32} : am_okc 182 [.ref p0, .int p1, .int p2, .int p3] = true := am_okc_of m182 rfl
theorem m183 : am_M[183]? = some (yX12_mostAt, cX12_mostAt, 6, (some .int), 12) := by rfl
theorem en183 {p0 : Nat} {p1 : Int32} {p2 : Int32} {p3 : Int32} : am_en 183 [.ref p0, .int p1, .int p2, .int p3] = [.ref p0, .int p1, .int p2, .int p3, am_jk, am_jk] := am_en_of m183
theorem ok183 {p0 : Nat} {p1 : Int32} {p2 : Int32} {p3 : Int32} : am_okc 183 [.ref p0, .int p1, .int p2, .int p3] = true := am_okc_of m183 rfl
theorem m184 : am_M[184]? = some (yX12_provinceOf, cX12_provinceOf, 3, (some .int), 12) := by rfl
theorem en184 {p0 : Nat} {p1 : Int32} {p2 : Int32} : am_en 184 [.ref p0, .int p1, .int p2] = [.ref p0, .int p1, .int p2] := am_en_of m184
theorem ok184 {p0 : Nat} {p1 : Int32} {p2 : Int32} : am_okc 184 [.ref p0, .int p1, .int p2] = true := am_okc_of m184 rfl
theorem m185 : am_M[185]? = some (yX12_here, cX12_here, 1, (some .int), 12) := by rfl
theorem en185 {p0 : Nat} : am_en 185 [.ref p0] = [.ref p0] := am_en_of m185
theorem ok185 {p0 : Nat} : am_okc 185 [.ref p0] = true := am_okc_of m185 rfl
theorem m186 : am_M[186]? = some (yX12_bad, cX12_bad, 1, (some .boolean), 12) := by rfl
theorem en186 {p0 : Nat} : am_en 186 [.ref p0] = [.ref p0] := am_en_of m186
theorem ok186 {p0 : Nat} : am_okc 186 [.ref p0] = true := am_okc_of m186 rfl
theorem m187 : am_M[187]? = some (yX12_isLetter, cX12_isLetter, 2, (some .boolean), 12) := by rfl
theorem en187 {p0 : Nat} {p1 : Int32} : am_en 187 [.ref p0, .int p1] = [.ref p0, .int p1] := am_en_of m187
theorem ok187 {p0 : Nat} {p1 : Int32} : am_okc 187 [.ref p0, .int p1] = true := am_okc_of m187 rfl
theorem m188 : am_M[188]? = some (yX12_isDigit, cX12_isDigit, 2, (some .boolean), 12) := by rfl
theorem en188 {p0 : Nat} {p1 : Int32} : am_en 188 [.ref p0, .int p1] = [.ref p0, .int p1] := am_en_of m188
theorem ok188 {p0 : Nat} {p1 : Int32} : am_okc 188 [.ref p0, .int p1] = true := am_okc_of m188 rfl
theorem m189 : am_M[189]? = some (yX12_takes, cX12_takes, 3, (some .boolean), 12) := by rfl
theorem en189 {p0 : Nat} {p1 : Nat} : am_en 189 [.ref p0, .ref p1] = [.ref p0, .ref p1, am_jk] := am_en_of m189
theorem ok189 {p0 : Nat} {p1 : Nat} : am_okc 189 [.ref p0, .ref p1] = true := am_okc_of m189 rfl
theorem m190 : am_M[190]? = some (yX12_takes_, cX12_takes_, 2, (some .boolean), 12) := by rfl
theorem en190 {p0 : Nat} {p1 : Int32} : am_en 190 [.ref p0, .int p1] = [.ref p0, .int p1] := am_en_of m190
theorem ok190 {p0 : Nat} {p1 : Int32} : am_okc 190 [.ref p0, .int p1] = true := am_okc_of m190 rfl
theorem m191 : am_M[191]? = some (yX12_number, cX12_number, 4, (some .boolean), 12) := by rfl
theorem en191 {p0 : Nat} {p1 : Int32} : am_en 191 [.ref p0, .int p1] = [.ref p0, .int p1, am_jk, am_jk] := am_en_of m191
theorem ok191 {p0 : Nat} {p1 : Int32} : am_okc 191 [.ref p0, .int p1] = true := am_okc_of m191 rfl
theorem m192 : am_M[192]? = some (yX12_write, cX12_write, 2, none, 12) := by rfl
theorem en192 {p0 : Nat} {p1 : Int32} : am_en 192 [.ref p0, .int p1] = [.ref p0, .int p1] := am_en_of m192
theorem ok192 {p0 : Nat} {p1 : Int32} : am_okc 192 [.ref p0, .int p1] = true := am_okc_of m192 rfl
theorem m193 : am_M[193]? = some (yX12_sortHere, cX12_sortHere, 1, (some .int), 12) := by rfl
theorem en193 {p0 : Nat} : am_en 193 [.ref p0] = [.ref p0] := am_en_of m193
theorem ok193 {p0 : Nat} : am_okc 193 [.ref p0] = true := am_okc_of m193 rfl
theorem m194 : am_M[194]? = some (yX12_factHere, cX12_factHere, 1, (some .int), 12) := by rfl
theorem en194 {p0 : Nat} : am_en 194 [.ref p0] = [.ref p0] := am_en_of m194
theorem ok194 {p0 : Nat} : am_okc 194 [.ref p0] = true := am_okc_of m194 rfl
theorem m195 : am_M[195]? = some (yX12_cond, cX12_cond, 1, (some .boolean), 12) := by rfl
theorem en195 {p0 : Nat} : am_en 195 [.ref p0] = [.ref p0] := am_en_of m195
theorem ok195 {p0 : Nat} : am_okc 195 [.ref p0] = true := am_okc_of m195 rfl
theorem m196 : am_M[196]? = some (yX12_both, cX12_both, 1, (some .boolean), 12) := by rfl
theorem en196 {p0 : Nat} : am_en 196 [.ref p0] = [.ref p0] := am_en_of m196
theorem ok196 {p0 : Nat} : am_okc 196 [.ref p0] = true := am_okc_of m196 rfl
theorem m197 : am_M[197]? = some (yX12_single, cX12_single, 2, (some .boolean), 12) := by rfl
theorem en197 {p0 : Nat} : am_en 197 [.ref p0] = [.ref p0, am_jk] := am_en_of m197
theorem ok197 {p0 : Nat} : am_okc 197 [.ref p0] = true := am_okc_of m197 rfl
theorem m198 : am_M[198]? = some (yX12_plain, cX12_plain, 4, (some .boolean), 12) := by rfl
theorem en198 {p0 : Nat} : am_en 198 [.ref p0] = [.ref p0, am_jk, am_jk, am_jk] := am_en_of m198
theorem ok198 {p0 : Nat} : am_okc 198 [.ref p0] = true := am_okc_of m198 rfl
theorem m199 : am_M[199]? = some (yX12_line, cX12_line, 4, (some .boolean), 12) := by rfl
theorem en199 {p0 : Nat} {p1 : Int32} : am_en 199 [.ref p0, .int p1] = [.ref p0, .int p1, am_jk, am_jk] := am_en_of m199
theorem ok199 {p0 : Nat} {p1 : Int32} : am_okc 199 [.ref p0, .int p1] = true := am_okc_of m199 rfl
theorem m200 : am_M[200]? = some (yX12_feed, cX12_feed, 5, (some .int), 12) := by rfl
theorem en200 {p0 : Nat} {p1 : Int64} {p2 : Int32} : am_en 200 [.ref p0, .long p1, .int p2] = [.ref p0, .long p1, am_jk, .int p2, am_jk] := am_en_of m200
theorem ok200 {p0 : Nat} {p1 : Int64} {p2 : Int32} : am_okc 200 [.ref p0, .long p1, .int p2] = true := am_okc_of m200 rfl
theorem m201 : am_M[201]? = some (yX12_read, cX12_read, 2, (some .int), 12) := by rfl
theorem en201 {p0 : Nat} : am_en 201 [.ref p0] = [.ref p0, am_jk] := am_en_of m201
theorem ok201 {p0 : Nat} : am_okc 201 [.ref p0] = true := am_okc_of m201 rfl
theorem m202 : am_M[202]? = some (yX12_line_, cX12_line_, 5, (some .int), 12) := by rfl
theorem en202 {p0 : Nat} {p1 : Int32} {p2 : Int32} {p3 : Int32} : am_en 202 [.ref p0, .int p1, .int p2, .int p3] = [.ref p0, .int p1, .int p2, .int p3, am_jk] := am_en_of m202
theorem ok202 {p0 : Nat} {p1 : Int32} {p2 : Int32} {p3 : Int32} : am_okc 202 [.ref p0, .int p1, .int p2, .int p3] = true := am_okc_of m202 rfl
theorem m203 : am_M[203]? = some (yX12_statute, cX12_statute, 3, (some .int), 12) := by rfl
theorem en203 {p0 : Nat} {p1 : Int32} : am_en 203 [.ref p0, .int p1] = [.ref p0, .int p1, am_jk] := am_en_of m203
theorem ok203 {p0 : Nat} {p1 : Int32} : am_okc 203 [.ref p0, .int p1] = true := am_okc_of m203 rfl
theorem m204 : am_M[204]? = some (yX12_fact, cX12_fact, 4, (some .int), 12) := by rfl
theorem en204 {p0 : Nat} {p1 : Int32} {p2 : Int32} {p3 : Int32} : am_en 204 [.ref p0, .int p1, .int p2, .int p3] = [.ref p0, .int p1, .int p2, .int p3] := am_en_of m204
theorem ok204 {p0 : Nat} {p1 : Int32} {p2 : Int32} {p3 : Int32} : am_okc 204 [.ref p0, .int p1, .int p2, .int p3] = true := am_okc_of m204 rfl
theorem m205 : am_M[205]? = some (yX12_holds, cX12_holds, 11, (some .boolean), 12) := by rfl
theorem en205 {p0 : Nat} {p1 : Int32} {p2 : Int32} {p3 : Int32} {p4 : Int32} : am_en 205 [.ref p0, .int p1, .int p2, .int p3, .int p4] = [.ref p0, .int p1, .int p2, .int p3, .int p4, am_jk, am_jk, am_jk, am_jk, am_jk, am_jk] := am_en_of m205
theorem ok205 {p0 : Nat} {p1 : Int32} {p2 : Int32} {p3 : Int32} {p4 : Int32} : am_okc 205 [.ref p0, .int p1, .int p2, .int p3, .int p4] = true := am_okc_of m205 rfl
theorem m206 : am_M[206]? = some (yX12_first, cX12_first, 7, (some .int), 12) := by rfl
theorem en206 {p0 : Nat} {p1 : Int32} {p2 : Int32} {p3 : Int32} : am_en 206 [.ref p0, .int p1, .int p2, .int p3] = [.ref p0, .int p1, .int p2, .int p3, am_jk, am_jk, am_jk] := am_en_of m206
theorem ok206 {p0 : Nat} {p1 : Int32} {p2 : Int32} {p3 : Int32} : am_okc 206 [.ref p0, .int p1, .int p2, .int p3] = true := am_okc_of m206 rfl
theorem m207 : am_M[207]? = some (yX12_told, cX12_told, 6, (some .int), 12) := by rfl
theorem en207 {p0 : Nat} {p1 : Int32} {p2 : Int32} {p3 : Int32} {p4 : Int32} : am_en 207 [.ref p0, .int p1, .int p2, .int p3, .int p4] = [.ref p0, .int p1, .int p2, .int p3, .int p4, am_jk] := am_en_of m207
theorem ok207 {p0 : Nat} {p1 : Int32} {p2 : Int32} {p3 : Int32} {p4 : Int32} : am_okc 207 [.ref p0, .int p1, .int p2, .int p3, .int p4] = true := am_okc_of m207 rfl
theorem m208 : am_M[208]? = some (yX12_latest, cX12_latest, 7, (some .int), 12) := by rfl
theorem en208 {p0 : Nat} {p1 : Int32} {p2 : Int32} {p3 : Int32} : am_en 208 [.ref p0, .int p1, .int p2, .int p3] = [.ref p0, .int p1, .int p2, .int p3, am_jk, am_jk, am_jk] := am_en_of m208
theorem ok208 {p0 : Nat} {p1 : Int32} {p2 : Int32} {p3 : Int32} : am_okc 208 [.ref p0, .int p1, .int p2, .int p3] = true := am_okc_of m208 rfl
theorem m209 : am_M[209]? = some (yX12_isOff, cX12_isOff, 3, (some .boolean), 12) := by rfl
theorem en209 {p0 : Nat} {p1 : Int32} {p2 : Int32} : am_en 209 [.ref p0, .int p1, .int p2] = [.ref p0, .int p1, .int p2] := am_en_of m209
theorem ok209 {p0 : Nat} {p1 : Int32} {p2 : Int32} : am_okc 209 [.ref p0, .int p1, .int p2] = true := am_okc_of m209 rfl
theorem m210 : am_M[210]? = some (yX12_falls, cX12_falls, 4, (some .int), 12) := by rfl
theorem en210 {p0 : Nat} {p1 : Int32} {p2 : Int32} : am_en 210 [.ref p0, .int p1, .int p2] = [.ref p0, .int p1, .int p2, am_jk] := am_en_of m210
theorem ok210 {p0 : Nat} {p1 : Int32} {p2 : Int32} : am_okc 210 [.ref p0, .int p1, .int p2] = true := am_okc_of m210 rfl
theorem m211 : am_M[211]? = some (yX12_newDebt, cX12_newDebt, 8, (some .int), 12) := by rfl
theorem en211 {p0 : Nat} {p1 : Int32} {p2 : Int32} {p3 : Int32} {p4 : Int32} {p5 : Int32} : am_en 211 [.ref p0, .int p1, .int p2, .int p3, .int p4, .int p5] = [.ref p0, .int p1, .int p2, .int p3, .int p4, .int p5, am_jk, am_jk] := am_en_of m211
theorem ok211 {p0 : Nat} {p1 : Int32} {p2 : Int32} {p3 : Int32} {p4 : Int32} {p5 : Int32} : am_okc 211 [.ref p0, .int p1, .int p2, .int p3, .int p4, .int p5] = true := am_okc_of m211 rfl
theorem m212 : am_M[212]? = some (yX12_debt, cX12_debt, 4, (some .int), 12) := by rfl
theorem en212 {p0 : Nat} {p1 : Int32} {p2 : Int32} {p3 : Int32} : am_en 212 [.ref p0, .int p1, .int p2, .int p3] = [.ref p0, .int p1, .int p2, .int p3] := am_en_of m212
theorem ok212 {p0 : Nat} {p1 : Int32} {p2 : Int32} {p3 : Int32} : am_okc 212 [.ref p0, .int p1, .int p2, .int p3] = true := am_okc_of m212 rfl
theorem m213 : am_M[213]? = some (yX12_debtOf, cX12_debtOf, 4, (some .int), 12) := by rfl
theorem en213 {p0 : Nat} {p1 : Int32} {p2 : Int32} {p3 : Int32} : am_en 213 [.ref p0, .int p1, .int p2, .int p3] = [.ref p0, .int p1, .int p2, .int p3] := am_en_of m213
theorem ok213 {p0 : Nat} {p1 : Int32} {p2 : Int32} {p3 : Int32} : am_okc 213 [.ref p0, .int p1, .int p2, .int p3] = true := am_okc_of m213 rfl
theorem m214 : am_M[214]? = some (yX12_voids, cX12_voids, 2, (some .int), 12) := by rfl
theorem en214 {p0 : Nat} {p1 : Int32} : am_en 214 [.ref p0, .int p1] = [.ref p0, .int p1] := am_en_of m214
theorem ok214 {p0 : Nat} {p1 : Int32} : am_okc 214 [.ref p0, .int p1] = true := am_okc_of m214 rfl
theorem m215 : am_M[215]? = some (yX12_why, cX12_why, 5, (some .int), 12) := by rfl
theorem en215 {p0 : Nat} {p1 : Int32} {p2 : Int32} {p3 : Int32} : am_en 215 [.ref p0, .int p1, .int p2, .int p3] = [.ref p0, .int p1, .int p2, .int p3, am_jk] := am_en_of m215
theorem ok215 {p0 : Nat} {p1 : Int32} {p2 : Int32} {p3 : Int32} : am_okc 215 [.ref p0, .int p1, .int p2, .int p3] = true := am_okc_of m215 rfl
theorem m216 : am_M[216]? = some (yX12_share, cX12_share, 8, (some .int), 12) := by rfl
theorem en216 {p0 : Nat} {p1 : Int32} {p2 : Int32} {p3 : Int32} : am_en 216 [.ref p0, .int p1, .int p2, .int p3] = [.ref p0, .int p1, .int p2, .int p3, am_jk, am_jk, am_jk, am_jk] := am_en_of m216
theorem ok216 {p0 : Nat} {p1 : Int32} {p2 : Int32} {p3 : Int32} : am_okc 216 [.ref p0, .int p1, .int p2, .int p3] = true := am_okc_of m216 rfl
theorem m217 : am_M[217]? = some (yX12_part, cX12_part, 6, none, 12) := by rfl
theorem en217 {p0 : Nat} {p1 : Int32} {p2 : Int32} {p3 : Int32} : am_en 217 [.ref p0, .int p1, .int p2, .int p3] = [.ref p0, .int p1, .int p2, .int p3, am_jk, am_jk] := am_en_of m217
theorem ok217 {p0 : Nat} {p1 : Int32} {p2 : Int32} {p3 : Int32} : am_okc 217 [.ref p0, .int p1, .int p2, .int p3] = true := am_okc_of m217 rfl
theorem m218 : am_M[218]? = some (yX12_spare, cX12_spare, 3, (some .int), 12) := by rfl
theorem en218 {p0 : Nat} {p1 : Int32} {p2 : Int32} : am_en 218 [.ref p0, .int p1, .int p2] = [.ref p0, .int p1, .int p2] := am_en_of m218
theorem ok218 {p0 : Nat} {p1 : Int32} {p2 : Int32} : am_okc 218 [.ref p0, .int p1, .int p2] = true := am_okc_of m218 rfl
theorem m219 : am_M[219]? = some (yX12_gets, cX12_gets, 5, (some .int), 12) := by rfl
theorem en219 {p0 : Nat} {p1 : Int32} {p2 : Int32} {p3 : Int32} : am_en 219 [.ref p0, .int p1, .int p2, .int p3] = [.ref p0, .int p1, .int p2, .int p3, am_jk] := am_en_of m219
theorem ok219 {p0 : Nat} {p1 : Int32} {p2 : Int32} {p3 : Int32} : am_okc 219 [.ref p0, .int p1, .int p2, .int p3] = true := am_okc_of m219 rfl
theorem m220 : am_M[220]? = some (yX12_comesIn, cX12_comesIn, 2, none, 12) := by rfl
theorem en220 {p0 : Nat} {p1 : Int32} : am_en 220 [.ref p0, .int p1] = [.ref p0, .int p1] := am_en_of m220
theorem ok220 {p0 : Nat} {p1 : Int32} : am_okc 220 [.ref p0, .int p1] = true := am_okc_of m220 rfl
theorem m221 : am_M[221]? = some (yX12_months, cX12_months, 3, (some .int), 12) := by rfl
theorem en221 {p0 : Nat} {p1 : Int32} : am_en 221 [.ref p0, .int p1] = [.ref p0, .int p1, am_jk] := am_en_of m221
theorem ok221 {p0 : Nat} {p1 : Int32} : am_okc 221 [.ref p0, .int p1] = true := am_okc_of m221 rfl
theorem m222 : am_M[222]? = some (yX12_month, cX12_month, 6, none, 12) := by rfl
theorem en222 {p0 : Nat} : am_en 222 [.ref p0] = [.ref p0, am_jk, am_jk, am_jk, am_jk, am_jk] := am_en_of m222
theorem ok222 {p0 : Nat} : am_okc 222 [.ref p0] = true := am_okc_of m222 rfl
theorem m223 : am_M[223]? = some (yX12_lag, cX12_lag, 4, (some .int), 12) := by rfl
theorem en223 {p0 : Nat} {p1 : Int32} {p2 : Int32} : am_en 223 [.ref p0, .int p1, .int p2] = [.ref p0, .int p1, .int p2, am_jk] := am_en_of m223
theorem ok223 {p0 : Nat} {p1 : Int32} {p2 : Int32} : am_okc 223 [.ref p0, .int p1, .int p2] = true := am_okc_of m223 rfl
theorem m224 : am_M[224]? = some (yX12_knows, cX12_knows, 3, (some .int), 12) := by rfl
theorem en224 {p0 : Nat} {p1 : Int32} {p2 : Int32} : am_en 224 [.ref p0, .int p1, .int p2] = [.ref p0, .int p1, .int p2] := am_en_of m224
theorem ok224 {p0 : Nat} {p1 : Int32} {p2 : Int32} : am_okc 224 [.ref p0, .int p1, .int p2] = true := am_okc_of m224 rfl
theorem m225 : am_M[225]? = some (yX12_takesIt, cX12_takesIt, 4, (some .boolean), 12) := by rfl
theorem en225 {p0 : Nat} {p1 : Int32} {p2 : Int32} {p3 : Int32} : am_en 225 [.ref p0, .int p1, .int p2, .int p3] = [.ref p0, .int p1, .int p2, .int p3] := am_en_of m225
theorem ok225 {p0 : Nat} {p1 : Int32} {p2 : Int32} {p3 : Int32} : am_okc 225 [.ref p0, .int p1, .int p2, .int p3] = true := am_okc_of m225 rfl
theorem m226 : am_M[226]? = some (yX12_swap, cX12_swap, 4, (some .int), 12) := by rfl
theorem en226 {p0 : Nat} {p1 : Int32} {p2 : Int32} {p3 : Int32} : am_en 226 [.ref p0, .int p1, .int p2, .int p3] = [.ref p0, .int p1, .int p2, .int p3] := am_en_of m226
theorem ok226 {p0 : Nat} {p1 : Int32} {p2 : Int32} {p3 : Int32} : am_okc 226 [.ref p0, .int p1, .int p2, .int p3] = true := am_okc_of m226 rfl
theorem m227 : am_M[227]? = some (yX12_offer, cX12_offer, 4, (some .int), 12) := by rfl
theorem en227 {p0 : Nat} {p1 : Int32} {p2 : Int32} : am_en 227 [.ref p0, .int p1, .int p2] = [.ref p0, .int p1, .int p2, am_jk] := am_en_of m227
theorem ok227 {p0 : Nat} {p1 : Int32} {p2 : Int32} : am_okc 227 [.ref p0, .int p1, .int p2] = true := am_okc_of m227 rfl
theorem m228 : am_M[228]? = some (yX12_railway, cX12_railway, 5, (some .int), 12) := by rfl
theorem en228 {p0 : Nat} {p1 : Int32} {p2 : Int32} {p3 : Int32} : am_en 228 [.ref p0, .int p1, .int p2, .int p3] = [.ref p0, .int p1, .int p2, .int p3, am_jk] := am_en_of m228
theorem ok228 {p0 : Nat} {p1 : Int32} {p2 : Int32} {p3 : Int32} : am_okc 228 [.ref p0, .int p1, .int p2, .int p3] = true := am_okc_of m228 rfl
theorem m229 : am_M[229]? = some (yX12_earns, cX12_earns, 7, (some .int), 12) := by rfl
theorem en229 {p0 : Nat} {p1 : Int32} {p2 : Int32} : am_en 229 [.ref p0, .int p1, .int p2] = [.ref p0, .int p1, .int p2, am_jk, am_jk, am_jk, am_jk] := am_en_of m229
theorem ok229 {p0 : Nat} {p1 : Int32} {p2 : Int32} : am_okc 229 [.ref p0, .int p1, .int p2] = true := am_okc_of m229 rfl
theorem m230 : am_M[230]? = some (yX12_railwayOf, cX12_railwayOf, 4, (some .int), 12) := by rfl
theorem en230 {p0 : Nat} {p1 : Int32} {p2 : Int32} : am_en 230 [.ref p0, .int p1, .int p2] = [.ref p0, .int p1, .int p2, am_jk] := am_en_of m230
theorem ok230 {p0 : Nat} {p1 : Int32} {p2 : Int32} : am_okc 230 [.ref p0, .int p1, .int p2] = true := am_okc_of m230 rfl
theorem m231 : am_M[231]? = some (yX12_paper, cX12_paper, 6, (some .int), 12) := by rfl
theorem en231 {p0 : Nat} {p1 : Int32} {p2 : Int32} {p3 : Int32} {p4 : Int32} : am_en 231 [.ref p0, .int p1, .int p2, .int p3, .int p4] = [.ref p0, .int p1, .int p2, .int p3, .int p4, am_jk] := am_en_of m231
theorem ok231 {p0 : Nat} {p1 : Int32} {p2 : Int32} {p3 : Int32} {p4 : Int32} : am_okc 231 [.ref p0, .int p1, .int p2, .int p3, .int p4] = true := am_okc_of m231 rfl
theorem m232 : am_M[232]? = some (yX12_mayBeOne, cX12_mayBeOne, 4, (some .boolean), 12) := by rfl
theorem en232 {p0 : Nat} {p1 : Int32} {p2 : Int32} : am_en 232 [.ref p0, .int p1, .int p2] = [.ref p0, .int p1, .int p2, am_jk] := am_en_of m232
theorem ok232 {p0 : Nat} {p1 : Int32} {p2 : Int32} : am_okc 232 [.ref p0, .int p1, .int p2] = true := am_okc_of m232 rfl
theorem m233 : am_M[233]? = some (yX12_others, cX12_others, 4, (some .int), 12) := by rfl
theorem en233 {p0 : Nat} {p1 : Int32} : am_en 233 [.ref p0, .int p1] = [.ref p0, .int p1, am_jk, am_jk] := am_en_of m233
theorem ok233 {p0 : Nat} {p1 : Int32} : am_okc 233 [.ref p0, .int p1] = true := am_okc_of m233 rfl
theorem m234 : am_M[234]? = some (yX12_finds, cX12_finds, 3, (some .boolean), 12) := by rfl
theorem en234 {p0 : Nat} {p1 : Int32} : am_en 234 [.ref p0, .int p1] = [.ref p0, .int p1, am_jk] := am_en_of m234
theorem ok234 {p0 : Nat} {p1 : Int32} : am_okc 234 [.ref p0, .int p1] = true := am_okc_of m234 rfl
theorem m235 : am_M[235]? = some (yX12_match, cX12_match, 3, none, 12) := by rfl
theorem en235 {p0 : Nat} : am_en 235 [.ref p0] = [.ref p0, am_jk, am_jk] := am_en_of m235
theorem ok235 {p0 : Nat} : am_okc 235 [.ref p0] = true := am_okc_of m235 rfl
theorem m236 : am_M[236]? = some (yX12_bills, cX12_bills, 4, (some .int), 12) := by rfl
theorem en236 {p0 : Nat} {p1 : Int32} : am_en 236 [.ref p0, .int p1] = [.ref p0, .int p1, am_jk, am_jk] := am_en_of m236
theorem ok236 {p0 : Nat} {p1 : Int32} : am_okc 236 [.ref p0, .int p1] = true := am_okc_of m236 rfl
theorem m237 : am_M[237]? = some (yX12_taking, cX12_taking, 4, (some .int), 12) := by rfl
theorem en237 {p0 : Nat} {p1 : Int32} {p2 : Int32} : am_en 237 [.ref p0, .int p1, .int p2] = [.ref p0, .int p1, .int p2, am_jk] := am_en_of m237
theorem ok237 {p0 : Nat} {p1 : Int32} {p2 : Int32} : am_okc 237 [.ref p0, .int p1, .int p2] = true := am_okc_of m237 rfl
theorem m238 : am_M[238]? = some (yX12_upTo, cX12_upTo, 4, (some .int), 12) := by rfl
theorem en238 {p0 : Nat} {p1 : Int32} : am_en 238 [.ref p0, .int p1] = [.ref p0, .int p1, am_jk, am_jk] := am_en_of m238
theorem ok238 {p0 : Nat} {p1 : Int32} : am_okc 238 [.ref p0, .int p1] = true := am_okc_of m238 rfl
theorem m239 : am_M[239]? = some (yX12_isLast, cX12_isLast, 3, (some .boolean), 12) := by rfl
theorem en239 {p0 : Nat} {p1 : Int32} : am_en 239 [.ref p0, .int p1] = [.ref p0, .int p1, am_jk] := am_en_of m239
theorem ok239 {p0 : Nat} {p1 : Int32} : am_okc 239 [.ref p0, .int p1] = true := am_okc_of m239 rfl
theorem m240 : am_M[240]? = some (yX12_takings, cX12_takings, 6, (some .int), 12) := by rfl
theorem en240 {p0 : Nat} {p1 : Int32} : am_en 240 [.ref p0, .int p1] = [.ref p0, .int p1, am_jk, am_jk, am_jk, am_jk] := am_en_of m240
theorem ok240 {p0 : Nat} {p1 : Int32} : am_okc 240 [.ref p0, .int p1] = true := am_okc_of m240 rfl
theorem m241 : am_M[241]? = some (yX12_choice, cX12_choice, 6, (some .int), 12) := by rfl
theorem en241 {p0 : Nat} {p1 : Int32} {p2 : Int32} {p3 : Int32} {p4 : Int32} : am_en 241 [.ref p0, .int p1, .int p2, .int p3, .int p4] = [.ref p0, .int p1, .int p2, .int p3, .int p4, am_jk] := am_en_of m241
theorem ok241 {p0 : Nat} {p1 : Int32} {p2 : Int32} {p3 : Int32} {p4 : Int32} : am_okc 241 [.ref p0, .int p1, .int p2, .int p3, .int p4] = true := am_okc_of m241 rfl
theorem m242 : am_M[242]? = some (yX12_leastYear, cX12_leastYear, 7, (some .int), 12) := by rfl
theorem en242 {p0 : Nat} {p1 : Int32} {p2 : Int32} : am_en 242 [.ref p0, .int p1, .int p2] = [.ref p0, .int p1, .int p2, am_jk, am_jk, am_jk, am_jk] := am_en_of m242
theorem ok242 {p0 : Nat} {p1 : Int32} {p2 : Int32} : am_okc 242 [.ref p0, .int p1, .int p2] = true := am_okc_of m242 rfl
theorem m243 : am_M[243]? = some (yX12_sunk, cX12_sunk, 4, (some .int), 12) := by rfl
theorem en243 {p0 : Nat} {p1 : Int32} : am_en 243 [.ref p0, .int p1] = [.ref p0, .int p1, am_jk, am_jk] := am_en_of m243
theorem ok243 {p0 : Nat} {p1 : Int32} : am_okc 243 [.ref p0, .int p1] = true := am_okc_of m243 rfl
theorem m244 : am_M[244]? = some (yX12_choose, cX12_choose, 6, (some .int), 12) := by rfl
theorem en244 {p0 : Nat} {p1 : Int32} : am_en 244 [.ref p0, .int p1] = [.ref p0, .int p1, am_jk, am_jk, am_jk, am_jk] := am_en_of m244
theorem ok244 {p0 : Nat} {p1 : Int32} : am_okc 244 [.ref p0, .int p1] = true := am_okc_of m244 rfl
theorem m245 : am_M[245]? = some (yX12_row, cX12_row, 3, (some .int), 12) := by rfl
theorem en245 {p0 : Nat} {p1 : Int32} {p2 : Int32} : am_en 245 [.ref p0, .int p1, .int p2] = [.ref p0, .int p1, .int p2] := am_en_of m245
theorem ok245 {p0 : Nat} {p1 : Int32} {p2 : Int32} : am_okc 245 [.ref p0, .int p1, .int p2] = true := am_okc_of m245 rfl
theorem m246 : am_M[246]? = some (yX12_alterRow, cX12_alterRow, 6, (some .int), 12) := by rfl
theorem en246 {p0 : Nat} {p1 : Int32} {p2 : Int32} {p3 : Int32} : am_en 246 [.ref p0, .int p1, .int p2, .int p3] = [.ref p0, .int p1, .int p2, .int p3, am_jk, am_jk] := am_en_of m246
theorem ok246 {p0 : Nat} {p1 : Int32} {p2 : Int32} {p3 : Int32} : am_okc 246 [.ref p0, .int p1, .int p2, .int p3] = true := am_okc_of m246 rfl
theorem m247 : am_M[247]? = some (yX12_dropRow, cX12_dropRow, 1, (some .int), 12) := by rfl
theorem en247 {p0 : Nat} : am_en 247 [.ref p0] = [.ref p0] := am_en_of m247
theorem ok247 {p0 : Nat} : am_okc 247 [.ref p0] = true := am_okc_of m247 rfl
theorem m248 : am_M[248]? = some (yX12_judge, cX12_judge, 6, (some .int), 12) := by rfl
theorem en248 {p0 : Nat} {p1 : Int32} : am_en 248 [.ref p0, .int p1] = [.ref p0, .int p1, am_jk, am_jk, am_jk, am_jk] := am_en_of m248
theorem ok248 {p0 : Nat} {p1 : Int32} : am_okc 248 [.ref p0, .int p1] = true := am_okc_of m248 rfl
theorem m249 : am_M[249]? = some (yX12_narrowed, cX12_narrowed, 2, (some .long), 12) := by rfl
theorem en249 {p0 : Int32} {p1 : Int32} : am_en 249 [.int p0, .int p1] = [.int p0, .int p1] := am_en_of m249
theorem ok249 {p0 : Int32} {p1 : Int32} : am_okc 249 [.int p0, .int p1] = true := am_okc_of m249 rfl
theorem m250 : am_M[250]? = some (yX12_sheet, cX12_sheet, 5, (some .int), 12) := by rfl
theorem en250 {p0 : Nat} {p1 : Int32} {p2 : Int32} {p3 : Int32} : am_en 250 [.ref p0, .int p1, .int p2, .int p3] = [.ref p0, .int p1, .int p2, .int p3, am_jk] := am_en_of m250
theorem ok250 {p0 : Nat} {p1 : Int32} {p2 : Int32} {p3 : Int32} : am_okc 250 [.ref p0, .int p1, .int p2, .int p3] = true := am_okc_of m250 rfl
theorem m251 : am_M[251]? = some (yX12_put, cX12_put, 4, (some .int), 12) := by rfl
theorem en251 {p0 : Nat} {p1 : Int32} {p2 : Int32} {p3 : Int32} : am_en 251 [.ref p0, .int p1, .int p2, .int p3] = [.ref p0, .int p1, .int p2, .int p3] := am_en_of m251
theorem ok251 {p0 : Nat} {p1 : Int32} {p2 : Int32} {p3 : Int32} : am_okc 251 [.ref p0, .int p1, .int p2, .int p3] = true := am_okc_of m251 rfl
theorem m252 : am_M[252]? = some (yX12_item, cX12_item, 4, (some .int), 12) := by rfl
theorem en252 {p0 : Nat} {p1 : Int32} {p2 : Int32} {p3 : Int32} : am_en 252 [.ref p0, .int p1, .int p2, .int p3] = [.ref p0, .int p1, .int p2, .int p3] := am_en_of m252
theorem ok252 {p0 : Nat} {p1 : Int32} {p2 : Int32} {p3 : Int32} : am_okc 252 [.ref p0, .int p1, .int p2, .int p3] = true := am_okc_of m252 rfl
theorem m253 : am_M[253]? = some (yX12_shelf, cX12_shelf, 4, (some .int), 12) := by rfl
theorem en253 {p0 : Nat} {p1 : Int32} {p2 : Int32} {p3 : Int32} : am_en 253 [.ref p0, .int p1, .int p2, .int p3] = [.ref p0, .int p1, .int p2, .int p3] := am_en_of m253
theorem ok253 {p0 : Nat} {p1 : Int32} {p2 : Int32} {p3 : Int32} : am_okc 253 [.ref p0, .int p1, .int p2, .int p3] = true := am_okc_of m253 rfl
theorem m254 : am_M[254]? = some (yX12_kindOn, cX12_kindOn, 3, (some .int), 12) := by rfl
theorem en254 {p0 : Nat} {p1 : Int32} : am_en 254 [.ref p0, .int p1] = [.ref p0, .int p1, am_jk] := am_en_of m254
theorem ok254 {p0 : Nat} {p1 : Int32} : am_okc 254 [.ref p0, .int p1] = true := am_okc_of m254 rfl
theorem m255 : am_M[255]? = some (yX12_isUnder, cX12_isUnder, 2, (some .boolean), 12) := by rfl
theorem en255 {p0 : Int32} {p1 : Int32} : am_en 255 [.int p0, .int p1] = [.int p0, .int p1] := am_en_of m255
theorem ok255 {p0 : Int32} {p1 : Int32} : am_okc 255 [.int p0, .int p1] = true := am_okc_of m255 rfl
theorem m256 : am_M[256]? = some (yX12_taken, cX12_taken, 4, (some .int), 12) := by rfl
theorem en256 {p0 : Nat} {p1 : Int32} {p2 : Int32} : am_en 256 [.ref p0, .int p1, .int p2] = [.ref p0, .int p1, .int p2, am_jk] := am_en_of m256
theorem ok256 {p0 : Nat} {p1 : Int32} {p2 : Int32} : am_okc 256 [.ref p0, .int p1, .int p2] = true := am_okc_of m256 rfl
theorem m257 : am_M[257]? = some (yX12_begins, cX12_begins, 2, none, 12) := by rfl
theorem en257 {p0 : Nat} {p1 : Int32} : am_en 257 [.ref p0, .int p1] = [.ref p0, .int p1] := am_en_of m257
theorem ok257 {p0 : Nat} {p1 : Int32} : am_okc 257 [.ref p0, .int p1] = true := am_okc_of m257 rfl
theorem m258 : am_M[258]? = some (yX12_over, cX12_over, 1, (some .int), 12) := by rfl
theorem en258 {p0 : Int32} : am_en 258 [.int p0] = [.int p0] := am_en_of m258
theorem ok258 {p0 : Int32} : am_okc 258 [.int p0] = true := am_okc_of m258 rfl
theorem m259 : am_M[259]? = some (yX12_pays, cX12_pays, 3, (some .int), 12) := by rfl
theorem en259 {p0 : Nat} {p1 : Int32} {p2 : Int32} : am_en 259 [.ref p0, .int p1, .int p2] = [.ref p0, .int p1, .int p2] := am_en_of m259
theorem ok259 {p0 : Nat} {p1 : Int32} {p2 : Int32} : am_okc 259 [.ref p0, .int p1, .int p2] = true := am_okc_of m259 rfl
theorem m260 : am_M[260]? = some (yX12_ranks, cX12_ranks, 3, (some .int), 12) := by rfl
theorem en260 {p0 : Nat} {p1 : Int32} {p2 : Int32} : am_en 260 [.ref p0, .int p1, .int p2] = [.ref p0, .int p1, .int p2] := am_en_of m260
theorem ok260 {p0 : Nat} {p1 : Int32} {p2 : Int32} : am_okc 260 [.ref p0, .int p1, .int p2] = true := am_okc_of m260 rfl
theorem m261 : am_M[261]? = some (yX12_falls1, cX12_falls1, 5, (some .int), 12) := by rfl
theorem en261 {p0 : Nat} {p1 : Int32} {p2 : Int32} : am_en 261 [.ref p0, .int p1, .int p2] = [.ref p0, .int p1, .int p2, am_jk, am_jk] := am_en_of m261
theorem ok261 {p0 : Nat} {p1 : Int32} {p2 : Int32} : am_okc 261 [.ref p0, .int p1, .int p2] = true := am_okc_of m261 rfl
theorem m262 : am_M[262]? = some (yX12_tells, cX12_tells, 3, (some .int), 12) := by rfl
theorem en262 {p0 : Nat} {p1 : Int32} {p2 : Int32} : am_en 262 [.ref p0, .int p1, .int p2] = [.ref p0, .int p1, .int p2] := am_en_of m262
theorem ok262 {p0 : Nat} {p1 : Int32} {p2 : Int32} : am_okc 262 [.ref p0, .int p1, .int p2] = true := am_okc_of m262 rfl
theorem m263 : am_M[263]? = some (yX12_deal, cX12_deal, 5, (some .int), 12) := by rfl
theorem en263 {p0 : Nat} {p1 : Int32} {p2 : Int32} {p3 : Int32} : am_en 263 [.ref p0, .int p1, .int p2, .int p3] = [.ref p0, .int p1, .int p2, .int p3, am_jk] := am_en_of m263
theorem ok263 {p0 : Nat} {p1 : Int32} {p2 : Int32} {p3 : Int32} : am_okc 263 [.ref p0, .int p1, .int p2, .int p3] = true := am_okc_of m263 rfl
theorem m264 : am_M[264]? = some (yX12_trace, cX12_trace, 2, (some .int), 12) := by rfl
theorem en264 {p0 : Nat} {p1 : Int32} : am_en 264 [.ref p0, .int p1] = [.ref p0, .int p1] := am_en_of m264
theorem ok264 {p0 : Nat} {p1 : Int32} : am_okc 264 [.ref p0, .int p1] = true := am_okc_of m264 rfl
theorem m265 : am_M[265]? = some (yX12_many, cX12_many, 4, (some .int), 12) := by rfl
theorem en265 {p0 : Nat} {p1 : Int32} : am_en 265 [.ref p0, .int p1] = [.ref p0, .int p1, am_jk, am_jk] := am_en_of m265
theorem ok265 {p0 : Nat} {p1 : Int32} : am_okc 265 [.ref p0, .int p1] = true := am_okc_of m265 rfl
theorem m266 : am_M[266]? = some (yX12_copied, cX12_copied, 4, none, 12) := by rfl
theorem en266 {p0 : Nat} {p1 : Nat} : am_en 266 [.ref p0, .ref p1] = [.ref p0, .ref p1, am_jk, am_jk] := am_en_of m266
theorem ok266 {p0 : Nat} {p1 : Nat} : am_okc 266 [.ref p0, .ref p1] = true := am_okc_of m266 rfl
theorem m267 : am_M[267]? = some (yX12_keep, cX12_keep, 1, (some .int), 12) := by rfl
theorem en267 {p0 : Nat} : am_en 267 [.ref p0] = [.ref p0] := am_en_of m267
theorem ok267 {p0 : Nat} : am_okc 267 [.ref p0] = true := am_okc_of m267 rfl
theorem m268 : am_M[268]? = some (yX12_again, cX12_again, 1, (some .int), 12) := by rfl
theorem en268 {p0 : Nat} : am_en 268 [.ref p0] = [.ref p0] := am_en_of m268
theorem ok268 {p0 : Nat} : am_okc 268 [.ref p0] = true := am_okc_of m268 rfl
theorem m269 : am_M[269]? = some (yJ0_length_8abf5, cJ0_length_8abf5, 1, (some .int), 13) := by rfl
theorem en269 {p0 : Nat} : am_en 269 [.ref p0] = [.ref p0] := am_en_of m269
theorem ok269 {p0 : Nat} : am_okc 269 [.ref p0] = true := am_okc_of m269 rfl
theorem m270 : am_M[270]? = some (yJ0_charAt_5068e, cJ0_charAt_5068e, 2, (some .char), 13) := by rfl
theorem en270 {p0 : Nat} {p1 : Int32} : am_en 270 [.ref p0, .int p1] = [.ref p0, .int p1] := am_en_of m270
theorem ok270 {p0 : Nat} {p1 : Int32} : am_okc 270 [.ref p0, .int p1] = true := am_okc_of m270 rfl
theorem m271 : am_M[271]? = some (yJ0_coder_7d493, cJ0_coder_7d493, 1, (some .byte), 13) := by rfl
theorem en271 {p0 : Nat} : am_en 271 [.ref p0] = [.ref p0] := am_en_of m271
theorem ok271 {p0 : Nat} : am_okc 271 [.ref p0] = true := am_okc_of m271 rfl
theorem m272 : am_M[272]? = some (yJ0_isLatin1_aae02, cJ0_isLatin1_aae02, 1, (some .boolean), 13) := by rfl
theorem en272 {p0 : Nat} : am_en 272 [.ref p0] = [.ref p0] := am_en_of m272
theorem ok272 {p0 : Nat} : am_okc 272 [.ref p0] = true := am_okc_of m272 rfl
theorem m273 : am_M[273]? = some (yJ0_checkIndex_df160, cJ0_checkIndex_df160, 2, none, 13) := by rfl
theorem en273 {p0 : Int32} {p1 : Int32} : am_en 273 [.int p0, .int p1] = [.int p0, .int p1] := am_en_of m273
theorem ok273 {p0 : Int32} {p1 : Int32} : am_okc 273 [.int p0, .int p1] = true := am_okc_of m273 rfl
theorem m274 : am_M[274]? = some (yJ1_charAt_3b067, cJ1_charAt_3b067, 2, (some .char), 14) := by rfl
theorem en274 {p0 : Nat} {p1 : Int32} : am_en 274 [.ref p0, .int p1] = [.ref p0, .int p1] := am_en_of m274
theorem ok274 {p0 : Nat} {p1 : Int32} : am_okc 274 [.ref p0, .int p1] = true := am_okc_of m274 rfl
theorem m275 : am_M[275]? = some (yJ7_fill_53178, cJ7_fill_53178, 4, none, 17) := by rfl
theorem en275 {p0 : Nat} {p1 : Int32} : am_en 275 [.ref p0, .int p1] = [.ref p0, .int p1, am_jk, am_jk] := am_en_of m275
theorem ok275 {p0 : Nat} {p1 : Int32} : am_okc 275 [.ref p0, .int p1] = true := am_okc_of m275 rfl
theorem m276 : am_M[276]? = some (yX6_forgetSeen, cX6_forgetSeen, 2, none, 6) := by rfl
theorem en276 {p0 : Nat} : am_en 276 [.ref p0] = [.ref p0, am_jk] := am_en_of m276
theorem ok276 {p0 : Nat} : am_okc 276 [.ref p0] = true := am_okc_of m276 rfl
theorem m277 : am_M[277]? = some (yJ7_copyOf_59c91, cJ7_copyOf_59c91, 3, (some (.array .int)), 17) := by rfl
theorem en277 {p0 : Nat} {p1 : Int32} : am_en 277 [.ref p0, .int p1] = [.ref p0, .int p1, am_jk] := am_en_of m277
theorem ok277 {p0 : Nat} {p1 : Int32} : am_okc 277 [.ref p0, .int p1] = true := am_okc_of m277 rfl
theorem m278 : am_M[278]? = some (yJ3_checkIndex_8e157, cJ3_checkIndex_8e157, 3, (some .int), 15) := by rfl
theorem en278 {p0 : Int32} {p1 : Int32} {p2 : Nat} : am_en 278 [.int p0, .int p1, .ref p2] = [.int p0, .int p1, .ref p2] := am_en_of m278
theorem ok278 {p0 : Int32} {p1 : Int32} {p2 : Nat} : am_okc 278 [.int p0, .int p1, .ref p2] = true := am_okc_of m278 rfl
theorem m279 : am_M[279]? = some (yL_law, cL_law, 4, (some .boolean), 19) := by rfl
