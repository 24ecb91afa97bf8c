/-! THE LAW OUT OF THE LEAN MACHINE -/
def am_SB : List (List Int32) := [[114, 97, 110, 107], [99, 117, 116], [98, 97, 114], [116, 97, 107, 101], [115, 112, 97, 114, 101], [111, 102], [99, 117, 115, 116, 111, 109, 115], [115, 97, 108, 116], [116, 111, 98, 97, 99, 99, 111], [105, 102], [110, 111, 116], [102, 111, 114, 109], [104, 111, 117, 115, 101], [115, 117, 109], [101, 118, 101, 114, 121], [111, 119, 101, 100], [115, 105, 110, 99, 101], [97, 110, 100], [111, 114], [114, 97, 110, 107], [99, 117, 116], [98, 97, 114], [116, 97, 107, 101], [115, 112, 97, 114, 101], [111, 102], [99, 117, 115, 116, 111, 109, 115], [115, 97, 108, 116], [116, 111, 98, 97, 99, 99, 111], [105, 102], [110, 111, 116], [102, 111, 114, 109], [104, 111, 117, 115, 101], [115, 117, 109], [101, 118, 101, 114, 121], [111, 119, 101, 100], [115, 105, 110, 99, 101], [97, 110, 100], [111, 114]]
def am_tA : List Int32 := [-1, 0, 1, 2, 1, 1, 0]
def am_tB : List Int32 := [10, 11, 12, 13, 0, 20, 0, 0, 30, 0, 31, 0, 40, 0, 0, 41, 0, 0, 50, 0, 0, 60, 0, 61, 0, 0, 70, 0]
/-- what stands outside: kinds, lengths, contents (of the cell am_BG + i) -/
def am_oK (i : Nat) : Nat := if i ≤ 2 then 15 else if i ≤ 40 then 13 else if i ≤ 78 then 14 else 99
def am_oL (L fl i : Nat) : Nat := if i = 0 then 7 else if i = 1 then 28 else if i = 2 then L else if i = 79 then fl else if 41 ≤ i ∧ i ≤ 78 then (am_SB.getD (i - 41) []).length else 0
def am_oS (xs : Nat → Int32) (i j : Nat) : Int32 := if i = 0 then am_tA.getD j 0 else if i = 1 then am_tB.getD j 0 else if i = 2 then xs j else if 41 ≤ i ∧ i ≤ 78 then (am_SB.getD (i - 41) []).getD j 0 else 0
def am_σ0 (xs : Nat → Int32) : am_I := fun a => if a < am_BG then (fun _ => 0) else am_oS xs (a - am_BG)
def am_ρ0 : am_R := fun _ _ => none
def am_g0 : am_J := fun _ _ => 0
def am_τ0 (L fl : Nat) : am_T := (fun a => if a < am_BG then 99 else am_oK (a - am_BG), fun a => if a < am_BG then 0 else am_oL L fl (a - am_BG), 0, 0)
/-- THE GOAL, of the lean machine alone -/
def am_Goal (L : Nat) (xs : Nat → Int32) (fl : Nat) : Prop := AW 100 279 0 [.ref (am_BG + 2), am_jk, am_jk, am_jk] [] (am_σ0 xs) am_ρ0 am_g0 (am_τ0 L fl) (fun r _ _ _ τ => r = some (.int 1) ∧ τ.2.2.1 ≤ 600000 ∧ τ.2.2.2 ≤ 7302250)
def am_tm (i : Nat) : Term := Term.string (am_S.getD i ("", 0, "")).1 (am_S.getD i ("", 0, "")).2.1
def am_fl : List Cond := flatC (Jvm.Cond.and given_1 narrow_1)
def am_fa2 (p : Nat) (c : Cond) : Bool := decide (am_fl[p]? = some c)
theorem am_fa2_mem {p : Nat} {c : Cond} (h : am_fa2 p c = true) : c ∈ am_fl := List.mem_of_getElem? (of_decide_eq_true h)
def am_ps : List (Nat × Nat × Nat × Nat × List Nat) := [(102, 103, 104, 105, [106, 107, 108, 109]), (110, 111, 112, 113, [114, 115, 116]), (117, 118, 119, 120, [121, 122, 123]), (124, 125, 126, 127, [128, 129, 130, 131]), (132, 133, 134, 135, [136, 137, 138, 139, 140]), (141, 142, 143, 144, [145, 146]), (147, 148, 149, 150, [151, 152, 153, 154, 155, 156, 157]), (158, 159, 160, 161, [162, 163, 164, 165]), (166, 167, 168, 169, [170, 171, 172, 173, 174, 175, 176]), (177, 178, 179, 180, [181, 182]), (183, 184, 185, 186, [187, 188, 189]), (190, 191, 192, 193, [194, 195, 196, 197]), (198, 199, 200, 201, [202, 203, 204, 205, 206]), (207, 208, 209, 210, [211, 212, 213]), (214, 215, 216, 217, [218, 219, 220, 221, 222]), (223, 224, 225, 226, [227, 228, 229, 230]), (231, 232, 233, 234, [235, 236, 237, 238, 239]), (240, 241, 242, 243, [244, 245, 246]), (247, 248, 249, 250, [251, 252]), (253, 254, 255, 256, [257, 258, 259, 260]), (262, 263, 264, 265, [266, 267, 268]), (270, 271, 272, 273, [274, 275, 276]), (278, 279, 280, 281, [282, 283, 284, 285]), (287, 288, 289, 290, [291, 292, 293, 294, 295]), (297, 298, 299, 300, [301, 302]), (304, 305, 306, 307, [308, 309, 310, 311, 312, 313, 314]), (316, 317, 318, 319, [320, 321, 322, 323]), (325, 326, 327, 328, [329, 330, 331, 332, 333, 334, 335]), (337, 338, 339, 340, [341, 342]), (344, 345, 346, 347, [348, 349, 350]), (352, 353, 354, 355, [356, 357, 358, 359]), (361, 362, 363, 364, [365, 366, 367, 368, 369]), (371, 372, 373, 374, [375, 376, 377]), (379, 380, 381, 382, [383, 384, 385, 386, 387]), (389, 390, 391, 392, [393, 394, 395, 396]), (398, 399, 400, 401, [402, 403, 404, 405, 406]), (408, 409, 410, 411, [412, 413, 414]), (416, 417, 418, 419, [420, 421])]
def am_nc (i : Nat) : Bool := let q := am_ps.getD i (0, 0, 0, 0, []); am_fa2 q.1 (.exactly (am_tm i) "java/lang/String") && am_fa2 q.2.1 (.eq (.field (am_tm i) "java/lang/String" "coder" "B") (.int 0)) && am_fa2 q.2.2.1 (.arrayOf (.field (am_tm i) "java/lang/String" "value" "[B") .byte) && am_fa2 q.2.2.2.1 (.eq (.length (.field (am_tm i) "java/lang/String" "value" "[B")) (.int (Int32.ofNat (am_SB.getD i []).length))) && (List.range (am_SB.getD i []).length).all (fun j => am_fa2 (q.2.2.2.2.getD j 0) (.eq (.elem (.field (am_tm i) "java/lang/String" "value" "[B") (.int (Int32.ofNat j))) (.int ((am_SB.getD i []).getD j 0))))
theorem am_nc0 : (List.range 10).all (fun i => am_nc (0 + i)) = true := by decide +kernel
theorem am_nc1 : (List.range 10).all (fun i => am_nc (10 + i)) = true := by decide +kernel
theorem am_nc2 : (List.range 10).all (fun i => am_nc (20 + i)) = true := by decide +kernel
theorem am_nc3 : (List.range 8).all (fun i => am_nc (30 + i)) = true := by decide +kernel
theorem am_ncA {i : Nat} (h : i < 38) : am_nc i = true := by
  have key : ∀ (b n : Nat), (List.range n).all (fun i => am_nc (b + i)) = true → b ≤ i → i < b + n → am_nc i = true := by
    intro b n h1 h2 h3
    have h4 := List.all_eq_true.mp h1 (i - b) (List.mem_range.mpr (by omega))
    rw [show b + (i - b) = i by omega] at h4
    exact h4
  by_cases h1 : i < 10
  · exact key 0 10 am_nc0 (by omega) (by omega)
  · by_cases h2 : i < 20
    · exact key 10 10 am_nc1 (by omega) (by omega)
    · by_cases h3 : i < 30
      · exact key 20 10 am_nc2 (by omega) (by omega)
      · exact key 30 8 am_nc3 (by omega) (by omega)
theorem am_n_ABOVE : (am_fa2 10 (.arrayOf (.static "DebtCouncil" "ABOVE" "[I") .int) && am_fa2 11 (.eq (.length (.static "DebtCouncil" "ABOVE" "[I")) (.int (Int32.ofNat 7))) && (List.range 7).all (fun j => am_fa2 (([12, 13, 14, 15, 16, 17, 18] : List Nat).getD j 0) (.eq (.elem (.static "DebtCouncil" "ABOVE" "[I") (.int (Int32.ofNat j))) (.int (am_tA.getD j 0))))) = true := by decide +kernel
theorem am_n_BODIES : (am_fa2 20 (.arrayOf (.static "DebtCouncil" "BODIES" "[I") .int) && am_fa2 21 (.eq (.length (.static "DebtCouncil" "BODIES" "[I")) (.int (Int32.ofNat 28))) && (List.range 28).all (fun j => am_fa2 (([22, 23, 24, 25, 26, 27, 28, 29, 30, 31, 32, 33, 34, 35, 36, 37, 38, 39, 40, 41, 42, 43, 44, 45, 46, 47, 48, 49] : List Nat).getD j 0) (.eq (.elem (.static "DebtCouncil" "BODIES" "[I") (.int (Int32.ofNat j))) (.int (am_tB.getD j 0))))) = true := by decide +kernel
theorem am_n5 : (am_fa2 4 (.eq (.static "java/lang/String" "COMPACT_STRINGS" "Z") (.int 1)) && am_fa2 5 (.isRef (.static "jdk/internal/util/Preconditions" "SIOOBE_FORMATTER" "Ljava/util/function/BiFunction;"))) = true := by decide +kernel
theorem am_ls0 : Cond.laysStatic "DebtCouncil" "ABOVE" "[I" ∈ lw_tbl ∧ Cond.initialized "DebtCouncil" ∈ lw_tbl := ⟨am_an_mem (p := 1186) (by decide +kernel), am_an_mem (p := 85) (by decide +kernel)⟩
theorem am_ls1 : Cond.laysStatic "DebtCouncil" "BODIES" "[I" ∈ lw_tbl ∧ Cond.initialized "DebtCouncil" ∈ lw_tbl := ⟨am_an_mem (p := 1204) (by decide +kernel), am_an_mem (p := 85) (by decide +kernel)⟩
theorem am_ls2 : Cond.laysStatic "java/lang/String" "COMPACT_STRINGS" "Z" ∈ lw_tbl ∧ Cond.initialized "java/lang/String" ∈ lw_tbl := ⟨am_an_mem (p := 802) (by decide +kernel), am_an_mem (p := 100) (by decide +kernel)⟩
theorem am_ls3 : Cond.laysStatic "jdk/internal/util/Preconditions" "SIOOBE_FORMATTER" "Ljava/util/function/BiFunction;" ∈ lw_tbl ∧ Cond.initialized "jdk/internal/util/Preconditions" ∈ lw_tbl := ⟨am_an_mem (p := 818) (by decide +kernel), am_an_mem (p := 102) (by decide +kernel)⟩
theorem am_ovA : Cond.arrayOver (.array .int) ∈ lw_tbl := am_an_mem (p := 421) (by decide +kernel)
theorem am_sr : (List.range 38).all (fun i => am_an (([788, 841, 842, 843, 844, 857, 862, 863, 864, 868, 881, 905, 906, 907, 908, 909, 910, 911, 912, 1598, 1609, 1610, 1611, 1612, 1621, 1626, 1627, 1628, 1629, 1642, 1660, 1661, 1662, 1663, 1664, 1665, 1669, 1671] : List Nat).getD i 0) (.stringRef (am_S.getD i ("", 0, "")).1 (am_S.getD i ("", 0, "")).2.1 (am_S.getD i ("", 0, "")).2.2)) = true := by decide +kernel
