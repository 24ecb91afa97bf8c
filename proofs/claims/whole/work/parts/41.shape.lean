/-! the cells that stand after the two constructors: 261 of them -/
def sh_K : List Nat := [11, 3, 15, 15, 15, 20, 18, 9, 19, 21, 4, 15, 4, 15, 4, 15, 4, 15, 7, 15, 7, 15, 7, 15, 7, 15, 7, 15, 7, 15, 7, 15, 7, 15, 1, 15, 1, 15, 1, 15, 1, 15, 1, 15, 1, 15, 1, 15, 1, 15, 1, 15, 1, 15, 1, 15, 1, 15, 1, 15, 1, 15, 1, 15, 1, 15, 3, 15, 15, 15, 20, 18, 9, 19, 21, 4, 15, 4, 15, 4, 15, 4, 15, 7, 15, 7, 15, 7, 15, 7, 15, 7, 15, 7, 15, 7, 15, 7, 15, 1, 15, 1, 15, 1, 15, 1, 15, 1, 15, 1, 15, 1, 15, 1, 15, 1, 15, 1, 15, 1, 15, 1, 15, 1, 15, 1, 15, 1, 15, 1, 15, 10, 14, 15, 19, 8, 17, 15, 15, 15, 6, 15, 17, 4, 15, 2, 15, 15, 22, 15, 15, 15, 15, 15, 15, 15, 0, 15, 15, 15, 12, 15, 15, 15, 15, 15, 15, 15, 15, 15, 15, 15, 15, 15, 15, 15, 15, 15, 15, 15, 15, 15, 15, 15, 15, 15, 15, 15, 15, 15, 15, 15, 15, 15, 15, 15, 15, 15, 15, 15, 15, 22, 22, 15, 15, 15, 16, 15, 15, 15, 15, 15, 15, 15, 17, 15, 15, 15, 15, 15, 17, 15, 15, 15, 15, 15, 15, 15, 15, 15, 15, 15, 15, 15, 15, 15, 15, 15, 15, 15, 15, 15, 15, 15, 15, 15, 15, 15, 15, 15, 15, 15, 15, 15, 15, 15, 15, 15, 15, 15, 15]
def sh_L : List Nat := [11, 16, 3, 12, 5, 8, 16, 2, 0, 8, 4, 18, 4, 100, 4, 48, 4, 32, 5, 3, 5, 3, 5, 3, 5, 3, 5, 3, 5, 3, 5, 3, 5, 3, 10, 7, 10, 7, 10, 7, 10, 7, 10, 7, 10, 7, 10, 7, 10, 7, 10, 7, 10, 7, 10, 7, 10, 7, 10, 7, 10, 7, 10, 7, 10, 7, 16, 3, 12, 5, 8, 16, 2, 0, 8, 4, 18, 4, 100, 4, 48, 4, 32, 5, 3, 5, 3, 5, 3, 5, 3, 5, 3, 5, 3, 5, 3, 5, 3, 10, 7, 10, 7, 10, 7, 10, 7, 10, 7, 10, 7, 10, 7, 10, 7, 10, 7, 10, 7, 10, 7, 10, 7, 10, 7, 10, 7, 10, 7, 10, 7, 10, 240, 240, 10, 6, 16, 16, 16, 16, 4, 20, 20, 4, 16, 6, 4, 4, 4, 40, 40, 40, 40, 4, 4, 4, 7, 30, 369, 3, 75, 9, 3, 12, 5, 24, 8, 8, 8, 8, 16, 16, 16, 16, 16, 16, 16, 16, 16, 112, 9, 9, 90, 90, 90, 90, 90, 2304, 6, 6, 6, 20, 20, 20, 20, 20, 16, 16, 16, 24, 8, 40, 40, 240, 16, 16, 160, 4, 4, 4, 4, 4, 30, 369, 256, 16, 16, 16, 3, 20, 20, 9, 3, 12, 5, 24, 8, 8, 8, 8, 16, 16, 16, 16, 16, 16, 16, 16, 16, 112, 9, 9, 90, 90, 90, 90, 90, 2304, 6, 6, 6, 20, 20, 20, 20, 20, 16, 16, 16, 24, 8]
def sh_R : List (Nat × Nat × Nat) := [(0, 0, 1), (0, 1, 66), (0, 3, 131), (0, 4, 135), (0, 5, 140), (0, 6, 143), (0, 7, 145), (0, 8, 156), (0, 9, 158), (0, 10, 159), (1, 2, 2), (1, 3, 3), (1, 4, 4), (1, 5, 5), (1, 7, 6), (1, 9, 7), (1, 10, 9), (1, 12, 10), (1, 13, 12), (1, 14, 14), (1, 15, 16), (7, 1, 8), (10, 2, 11), (12, 2, 13), (14, 2, 15), (16, 2, 17), (66, 2, 67), (66, 3, 68), (66, 4, 69), (66, 5, 70), (66, 7, 71), (66, 9, 72), (66, 10, 74), (66, 12, 75), (66, 13, 77), (66, 14, 79), (66, 15, 81), (72, 1, 73), (75, 2, 76), (77, 2, 78), (79, 2, 80), (81, 2, 82), (131, 0, 132), (131, 6, 133), (131, 8, 134), (135, 0, 136), (135, 1, 137), (135, 2, 138), (135, 3, 139), (140, 0, 141), (140, 1, 142), (143, 2, 144), (145, 0, 146), (145, 1, 147), (145, 2, 148), (145, 3, 153), (145, 4, 154), (145, 5, 155), (156, 5, 157), (160, 0, 161), (160, 1, 162), (160, 2, 163), (160, 3, 164), (160, 4, 165), (160, 5, 166), (160, 6, 167), (160, 7, 168), (160, 8, 169), (160, 9, 170), (160, 10, 171), (160, 11, 172), (160, 12, 173), (160, 13, 174), (160, 14, 175), (160, 15, 176), (160, 16, 177), (160, 17, 178), (160, 18, 179), (160, 19, 180), (160, 20, 181), (160, 21, 182), (160, 22, 183), (160, 23, 184), (160, 24, 185), (160, 25, 186), (160, 26, 187), (160, 27, 188), (160, 28, 189), (160, 29, 190), (160, 30, 191), (160, 31, 192), (160, 32, 193), (160, 33, 194), (160, 34, 195), (160, 35, 196), (160, 36, 197), (160, 37, 198), (160, 38, 199), (160, 39, 200), (160, 40, 201), (160, 41, 202), (160, 43, 203), (160, 45, 204), (160, 46, 205), (160, 48, 206), (160, 49, 207), (160, 50, 208), (160, 51, 209), (160, 52, 210), (160, 53, 211), (160, 54, 212), (160, 56, 213), (160, 63, 214), (160, 64, 215), (160, 65, 216), (160, 66, 217), (160, 67, 218), (160, 68, 219), (160, 69, 220)]
/-- the shape of the heap: kinds, lengths, the references that never change -/
def Sh (ρ : am_R) (τ : am_T) : Prop :=
  (∀ a, a < 261 → τ.1 a = sh_K.getD a 99 ∧ τ.2.1 a = sh_L.getD a 0) ∧ (∀ e ∈ sh_R, ρ e.1 e.2.1 = some e.2.2) ∧
  (∀ p, p < 8 → ρ 5 p = some (18 + 2 * p) ∧ ρ 70 p = some (83 + 2 * p) ∧ ρ (18 + 2 * p) 4 = some (19 + 2 * p) ∧ ρ (83 + 2 * p) 4 = some (84 + 2 * p)) ∧
  (∀ p, p < 16 → ρ 6 p = some (34 + 2 * p) ∧ ρ 71 p = some (99 + 2 * p) ∧ ρ (34 + 2 * p) 9 = some (35 + 2 * p) ∧ ρ (99 + 2 * p) 9 = some (100 + 2 * p)) ∧
  (∀ p, p < 4 → ρ 148 p = some (149 + p)) ∧ (∀ p, p < 40 → ρ 201 p = some (161 + p) ∧ ρ 202 p = some (221 + p)) ∧ 261 ≤ τ.2.2.1
section SH
variable {ρ : am_R} {τ : am_T}
theorem k_0 (hS : Sh ρ τ) : τ.1 0 = 11 := (hS.1 0 (by decide)).1
theorem k_1 (hS : Sh ρ τ) : τ.1 1 = 3 := (hS.1 1 (by decide)).1
theorem k_2 (hS : Sh ρ τ) : τ.1 2 = 15 := (hS.1 2 (by decide)).1
theorem l_2 (hS : Sh ρ τ) : τ.2.1 2 = 3 := (hS.1 2 (by decide)).2
theorem k_3 (hS : Sh ρ τ) : τ.1 3 = 15 := (hS.1 3 (by decide)).1
theorem l_3 (hS : Sh ρ τ) : τ.2.1 3 = 12 := (hS.1 3 (by decide)).2
theorem k_4 (hS : Sh ρ τ) : τ.1 4 = 15 := (hS.1 4 (by decide)).1
theorem l_4 (hS : Sh ρ τ) : τ.2.1 4 = 5 := (hS.1 4 (by decide)).2
theorem k_5 (hS : Sh ρ τ) : τ.1 5 = 20 := (hS.1 5 (by decide)).1
theorem l_5 (hS : Sh ρ τ) : τ.2.1 5 = 8 := (hS.1 5 (by decide)).2
theorem k_6 (hS : Sh ρ τ) : τ.1 6 = 18 := (hS.1 6 (by decide)).1
theorem l_6 (hS : Sh ρ τ) : τ.2.1 6 = 16 := (hS.1 6 (by decide)).2
theorem k_7 (hS : Sh ρ τ) : τ.1 7 = 9 := (hS.1 7 (by decide)).1
theorem k_8 (hS : Sh ρ τ) : τ.1 8 = 19 := (hS.1 8 (by decide)).1
theorem l_8 (hS : Sh ρ τ) : τ.2.1 8 = 0 := (hS.1 8 (by decide)).2
theorem k_9 (hS : Sh ρ τ) : τ.1 9 = 21 := (hS.1 9 (by decide)).1
theorem l_9 (hS : Sh ρ τ) : τ.2.1 9 = 8 := (hS.1 9 (by decide)).2
theorem k_10 (hS : Sh ρ τ) : τ.1 10 = 4 := (hS.1 10 (by decide)).1
theorem k_11 (hS : Sh ρ τ) : τ.1 11 = 15 := (hS.1 11 (by decide)).1
theorem l_11 (hS : Sh ρ τ) : τ.2.1 11 = 18 := (hS.1 11 (by decide)).2
theorem k_12 (hS : Sh ρ τ) : τ.1 12 = 4 := (hS.1 12 (by decide)).1
theorem k_13 (hS : Sh ρ τ) : τ.1 13 = 15 := (hS.1 13 (by decide)).1
theorem l_13 (hS : Sh ρ τ) : τ.2.1 13 = 100 := (hS.1 13 (by decide)).2
theorem k_14 (hS : Sh ρ τ) : τ.1 14 = 4 := (hS.1 14 (by decide)).1
theorem k_15 (hS : Sh ρ τ) : τ.1 15 = 15 := (hS.1 15 (by decide)).1
theorem l_15 (hS : Sh ρ τ) : τ.2.1 15 = 48 := (hS.1 15 (by decide)).2
theorem k_16 (hS : Sh ρ τ) : τ.1 16 = 4 := (hS.1 16 (by decide)).1
theorem k_17 (hS : Sh ρ τ) : τ.1 17 = 15 := (hS.1 17 (by decide)).1
theorem l_17 (hS : Sh ρ τ) : τ.2.1 17 = 32 := (hS.1 17 (by decide)).2
theorem k_66 (hS : Sh ρ τ) : τ.1 66 = 3 := (hS.1 66 (by decide)).1
theorem k_67 (hS : Sh ρ τ) : τ.1 67 = 15 := (hS.1 67 (by decide)).1
theorem l_67 (hS : Sh ρ τ) : τ.2.1 67 = 3 := (hS.1 67 (by decide)).2
theorem k_68 (hS : Sh ρ τ) : τ.1 68 = 15 := (hS.1 68 (by decide)).1
theorem l_68 (hS : Sh ρ τ) : τ.2.1 68 = 12 := (hS.1 68 (by decide)).2
theorem k_69 (hS : Sh ρ τ) : τ.1 69 = 15 := (hS.1 69 (by decide)).1
theorem l_69 (hS : Sh ρ τ) : τ.2.1 69 = 5 := (hS.1 69 (by decide)).2
theorem k_70 (hS : Sh ρ τ) : τ.1 70 = 20 := (hS.1 70 (by decide)).1
theorem l_70 (hS : Sh ρ τ) : τ.2.1 70 = 8 := (hS.1 70 (by decide)).2
theorem k_71 (hS : Sh ρ τ) : τ.1 71 = 18 := (hS.1 71 (by decide)).1
theorem l_71 (hS : Sh ρ τ) : τ.2.1 71 = 16 := (hS.1 71 (by decide)).2
theorem k_72 (hS : Sh ρ τ) : τ.1 72 = 9 := (hS.1 72 (by decide)).1
theorem k_73 (hS : Sh ρ τ) : τ.1 73 = 19 := (hS.1 73 (by decide)).1
theorem l_73 (hS : Sh ρ τ) : τ.2.1 73 = 0 := (hS.1 73 (by decide)).2
theorem k_74 (hS : Sh ρ τ) : τ.1 74 = 21 := (hS.1 74 (by decide)).1
theorem l_74 (hS : Sh ρ τ) : τ.2.1 74 = 8 := (hS.1 74 (by decide)).2
theorem k_75 (hS : Sh ρ τ) : τ.1 75 = 4 := (hS.1 75 (by decide)).1
theorem k_76 (hS : Sh ρ τ) : τ.1 76 = 15 := (hS.1 76 (by decide)).1
theorem l_76 (hS : Sh ρ τ) : τ.2.1 76 = 18 := (hS.1 76 (by decide)).2
theorem k_77 (hS : Sh ρ τ) : τ.1 77 = 4 := (hS.1 77 (by decide)).1
theorem k_78 (hS : Sh ρ τ) : τ.1 78 = 15 := (hS.1 78 (by decide)).1
theorem l_78 (hS : Sh ρ τ) : τ.2.1 78 = 100 := (hS.1 78 (by decide)).2
theorem k_79 (hS : Sh ρ τ) : τ.1 79 = 4 := (hS.1 79 (by decide)).1
theorem k_80 (hS : Sh ρ τ) : τ.1 80 = 15 := (hS.1 80 (by decide)).1
theorem l_80 (hS : Sh ρ τ) : τ.2.1 80 = 48 := (hS.1 80 (by decide)).2
theorem k_81 (hS : Sh ρ τ) : τ.1 81 = 4 := (hS.1 81 (by decide)).1
theorem k_82 (hS : Sh ρ τ) : τ.1 82 = 15 := (hS.1 82 (by decide)).1
theorem l_82 (hS : Sh ρ τ) : τ.2.1 82 = 32 := (hS.1 82 (by decide)).2
theorem k_131 (hS : Sh ρ τ) : τ.1 131 = 10 := (hS.1 131 (by decide)).1
theorem k_132 (hS : Sh ρ τ) : τ.1 132 = 14 := (hS.1 132 (by decide)).1
theorem l_132 (hS : Sh ρ τ) : τ.2.1 132 = 240 := (hS.1 132 (by decide)).2
theorem k_133 (hS : Sh ρ τ) : τ.1 133 = 15 := (hS.1 133 (by decide)).1
theorem l_133 (hS : Sh ρ τ) : τ.2.1 133 = 240 := (hS.1 133 (by decide)).2
theorem k_134 (hS : Sh ρ τ) : τ.1 134 = 19 := (hS.1 134 (by decide)).1
theorem l_134 (hS : Sh ρ τ) : τ.2.1 134 = 10 := (hS.1 134 (by decide)).2
theorem k_135 (hS : Sh ρ τ) : τ.1 135 = 8 := (hS.1 135 (by decide)).1
theorem k_136 (hS : Sh ρ τ) : τ.1 136 = 17 := (hS.1 136 (by decide)).1
theorem l_136 (hS : Sh ρ τ) : τ.2.1 136 = 16 := (hS.1 136 (by decide)).2
theorem k_137 (hS : Sh ρ τ) : τ.1 137 = 15 := (hS.1 137 (by decide)).1
theorem l_137 (hS : Sh ρ τ) : τ.2.1 137 = 16 := (hS.1 137 (by decide)).2
theorem k_138 (hS : Sh ρ τ) : τ.1 138 = 15 := (hS.1 138 (by decide)).1
theorem l_138 (hS : Sh ρ τ) : τ.2.1 138 = 16 := (hS.1 138 (by decide)).2
theorem k_139 (hS : Sh ρ τ) : τ.1 139 = 15 := (hS.1 139 (by decide)).1
theorem l_139 (hS : Sh ρ τ) : τ.2.1 139 = 16 := (hS.1 139 (by decide)).2
theorem k_140 (hS : Sh ρ τ) : τ.1 140 = 6 := (hS.1 140 (by decide)).1
theorem k_141 (hS : Sh ρ τ) : τ.1 141 = 15 := (hS.1 141 (by decide)).1
theorem l_141 (hS : Sh ρ τ) : τ.2.1 141 = 20 := (hS.1 141 (by decide)).2
theorem k_142 (hS : Sh ρ τ) : τ.1 142 = 17 := (hS.1 142 (by decide)).1
theorem l_142 (hS : Sh ρ τ) : τ.2.1 142 = 20 := (hS.1 142 (by decide)).2
theorem k_143 (hS : Sh ρ τ) : τ.1 143 = 4 := (hS.1 143 (by decide)).1
theorem k_144 (hS : Sh ρ τ) : τ.1 144 = 15 := (hS.1 144 (by decide)).1
theorem l_144 (hS : Sh ρ τ) : τ.2.1 144 = 16 := (hS.1 144 (by decide)).2
theorem k_145 (hS : Sh ρ τ) : τ.1 145 = 2 := (hS.1 145 (by decide)).1
theorem k_146 (hS : Sh ρ τ) : τ.1 146 = 15 := (hS.1 146 (by decide)).1
theorem l_146 (hS : Sh ρ τ) : τ.2.1 146 = 4 := (hS.1 146 (by decide)).2
theorem k_147 (hS : Sh ρ τ) : τ.1 147 = 15 := (hS.1 147 (by decide)).1
theorem l_147 (hS : Sh ρ τ) : τ.2.1 147 = 4 := (hS.1 147 (by decide)).2
theorem k_148 (hS : Sh ρ τ) : τ.1 148 = 22 := (hS.1 148 (by decide)).1
theorem l_148 (hS : Sh ρ τ) : τ.2.1 148 = 4 := (hS.1 148 (by decide)).2
theorem k_153 (hS : Sh ρ τ) : τ.1 153 = 15 := (hS.1 153 (by decide)).1
theorem l_153 (hS : Sh ρ τ) : τ.2.1 153 = 4 := (hS.1 153 (by decide)).2
theorem k_154 (hS : Sh ρ τ) : τ.1 154 = 15 := (hS.1 154 (by decide)).1
theorem l_154 (hS : Sh ρ τ) : τ.2.1 154 = 4 := (hS.1 154 (by decide)).2
theorem k_155 (hS : Sh ρ τ) : τ.1 155 = 15 := (hS.1 155 (by decide)).1
theorem l_155 (hS : Sh ρ τ) : τ.2.1 155 = 4 := (hS.1 155 (by decide)).2
theorem k_156 (hS : Sh ρ τ) : τ.1 156 = 0 := (hS.1 156 (by decide)).1
theorem k_157 (hS : Sh ρ τ) : τ.1 157 = 15 := (hS.1 157 (by decide)).1
theorem l_157 (hS : Sh ρ τ) : τ.2.1 157 = 30 := (hS.1 157 (by decide)).2
theorem k_158 (hS : Sh ρ τ) : τ.1 158 = 15 := (hS.1 158 (by decide)).1
theorem l_158 (hS : Sh ρ τ) : τ.2.1 158 = 369 := (hS.1 158 (by decide)).2
theorem k_159 (hS : Sh ρ τ) : τ.1 159 = 15 := (hS.1 159 (by decide)).1
theorem l_159 (hS : Sh ρ τ) : τ.2.1 159 = 3 := (hS.1 159 (by decide)).2
theorem k_160 (hS : Sh ρ τ) : τ.1 160 = 12 := (hS.1 160 (by decide)).1
theorem k_161 (hS : Sh ρ τ) : τ.1 161 = 15 := (hS.1 161 (by decide)).1
theorem l_161 (hS : Sh ρ τ) : τ.2.1 161 = 9 := (hS.1 161 (by decide)).2
theorem k_162 (hS : Sh ρ τ) : τ.1 162 = 15 := (hS.1 162 (by decide)).1
theorem l_162 (hS : Sh ρ τ) : τ.2.1 162 = 3 := (hS.1 162 (by decide)).2
theorem k_163 (hS : Sh ρ τ) : τ.1 163 = 15 := (hS.1 163 (by decide)).1
theorem l_163 (hS : Sh ρ τ) : τ.2.1 163 = 12 := (hS.1 163 (by decide)).2
theorem k_164 (hS : Sh ρ τ) : τ.1 164 = 15 := (hS.1 164 (by decide)).1
theorem l_164 (hS : Sh ρ τ) : τ.2.1 164 = 5 := (hS.1 164 (by decide)).2
theorem k_165 (hS : Sh ρ τ) : τ.1 165 = 15 := (hS.1 165 (by decide)).1
theorem l_165 (hS : Sh ρ τ) : τ.2.1 165 = 24 := (hS.1 165 (by decide)).2
theorem k_166 (hS : Sh ρ τ) : τ.1 166 = 15 := (hS.1 166 (by decide)).1
theorem l_166 (hS : Sh ρ τ) : τ.2.1 166 = 8 := (hS.1 166 (by decide)).2
theorem k_167 (hS : Sh ρ τ) : τ.1 167 = 15 := (hS.1 167 (by decide)).1
theorem l_167 (hS : Sh ρ τ) : τ.2.1 167 = 8 := (hS.1 167 (by decide)).2
theorem k_168 (hS : Sh ρ τ) : τ.1 168 = 15 := (hS.1 168 (by decide)).1
theorem l_168 (hS : Sh ρ τ) : τ.2.1 168 = 8 := (hS.1 168 (by decide)).2
theorem k_169 (hS : Sh ρ τ) : τ.1 169 = 15 := (hS.1 169 (by decide)).1
theorem l_169 (hS : Sh ρ τ) : τ.2.1 169 = 8 := (hS.1 169 (by decide)).2
theorem k_170 (hS : Sh ρ τ) : τ.1 170 = 15 := (hS.1 170 (by decide)).1
theorem l_170 (hS : Sh ρ τ) : τ.2.1 170 = 16 := (hS.1 170 (by decide)).2
theorem k_171 (hS : Sh ρ τ) : τ.1 171 = 15 := (hS.1 171 (by decide)).1
theorem l_171 (hS : Sh ρ τ) : τ.2.1 171 = 16 := (hS.1 171 (by decide)).2
theorem k_172 (hS : Sh ρ τ) : τ.1 172 = 15 := (hS.1 172 (by decide)).1
theorem l_172 (hS : Sh ρ τ) : τ.2.1 172 = 16 := (hS.1 172 (by decide)).2
theorem k_173 (hS : Sh ρ τ) : τ.1 173 = 15 := (hS.1 173 (by decide)).1
theorem l_173 (hS : Sh ρ τ) : τ.2.1 173 = 16 := (hS.1 173 (by decide)).2
theorem k_174 (hS : Sh ρ τ) : τ.1 174 = 15 := (hS.1 174 (by decide)).1
theorem l_174 (hS : Sh ρ τ) : τ.2.1 174 = 16 := (hS.1 174 (by decide)).2
theorem k_175 (hS : Sh ρ τ) : τ.1 175 = 15 := (hS.1 175 (by decide)).1
theorem l_175 (hS : Sh ρ τ) : τ.2.1 175 = 16 := (hS.1 175 (by decide)).2
theorem k_176 (hS : Sh ρ τ) : τ.1 176 = 15 := (hS.1 176 (by decide)).1
theorem l_176 (hS : Sh ρ τ) : τ.2.1 176 = 16 := (hS.1 176 (by decide)).2
theorem k_177 (hS : Sh ρ τ) : τ.1 177 = 15 := (hS.1 177 (by decide)).1
theorem l_177 (hS : Sh ρ τ) : τ.2.1 177 = 16 := (hS.1 177 (by decide)).2
theorem k_178 (hS : Sh ρ τ) : τ.1 178 = 15 := (hS.1 178 (by decide)).1
theorem l_178 (hS : Sh ρ τ) : τ.2.1 178 = 16 := (hS.1 178 (by decide)).2
theorem k_179 (hS : Sh ρ τ) : τ.1 179 = 15 := (hS.1 179 (by decide)).1
theorem l_179 (hS : Sh ρ τ) : τ.2.1 179 = 112 := (hS.1 179 (by decide)).2
theorem k_180 (hS : Sh ρ τ) : τ.1 180 = 15 := (hS.1 180 (by decide)).1
theorem l_180 (hS : Sh ρ τ) : τ.2.1 180 = 9 := (hS.1 180 (by decide)).2
theorem k_181 (hS : Sh ρ τ) : τ.1 181 = 15 := (hS.1 181 (by decide)).1
theorem l_181 (hS : Sh ρ τ) : τ.2.1 181 = 9 := (hS.1 181 (by decide)).2
theorem k_182 (hS : Sh ρ τ) : τ.1 182 = 15 := (hS.1 182 (by decide)).1
theorem l_182 (hS : Sh ρ τ) : τ.2.1 182 = 90 := (hS.1 182 (by decide)).2
theorem k_183 (hS : Sh ρ τ) : τ.1 183 = 15 := (hS.1 183 (by decide)).1
theorem l_183 (hS : Sh ρ τ) : τ.2.1 183 = 90 := (hS.1 183 (by decide)).2
theorem k_184 (hS : Sh ρ τ) : τ.1 184 = 15 := (hS.1 184 (by decide)).1
theorem l_184 (hS : Sh ρ τ) : τ.2.1 184 = 90 := (hS.1 184 (by decide)).2
theorem k_185 (hS : Sh ρ τ) : τ.1 185 = 15 := (hS.1 185 (by decide)).1
theorem l_185 (hS : Sh ρ τ) : τ.2.1 185 = 90 := (hS.1 185 (by decide)).2
theorem k_186 (hS : Sh ρ τ) : τ.1 186 = 15 := (hS.1 186 (by decide)).1
theorem l_186 (hS : Sh ρ τ) : τ.2.1 186 = 90 := (hS.1 186 (by decide)).2
theorem k_187 (hS : Sh ρ τ) : τ.1 187 = 15 := (hS.1 187 (by decide)).1
theorem l_187 (hS : Sh ρ τ) : τ.2.1 187 = 2304 := (hS.1 187 (by decide)).2
theorem k_188 (hS : Sh ρ τ) : τ.1 188 = 15 := (hS.1 188 (by decide)).1
theorem l_188 (hS : Sh ρ τ) : τ.2.1 188 = 6 := (hS.1 188 (by decide)).2
theorem k_189 (hS : Sh ρ τ) : τ.1 189 = 15 := (hS.1 189 (by decide)).1
theorem l_189 (hS : Sh ρ τ) : τ.2.1 189 = 6 := (hS.1 189 (by decide)).2
theorem k_190 (hS : Sh ρ τ) : τ.1 190 = 15 := (hS.1 190 (by decide)).1
theorem l_190 (hS : Sh ρ τ) : τ.2.1 190 = 6 := (hS.1 190 (by decide)).2
theorem k_191 (hS : Sh ρ τ) : τ.1 191 = 15 := (hS.1 191 (by decide)).1
theorem l_191 (hS : Sh ρ τ) : τ.2.1 191 = 20 := (hS.1 191 (by decide)).2
theorem k_192 (hS : Sh ρ τ) : τ.1 192 = 15 := (hS.1 192 (by decide)).1
theorem l_192 (hS : Sh ρ τ) : τ.2.1 192 = 20 := (hS.1 192 (by decide)).2
theorem k_193 (hS : Sh ρ τ) : τ.1 193 = 15 := (hS.1 193 (by decide)).1
theorem l_193 (hS : Sh ρ τ) : τ.2.1 193 = 20 := (hS.1 193 (by decide)).2
theorem k_194 (hS : Sh ρ τ) : τ.1 194 = 15 := (hS.1 194 (by decide)).1
theorem l_194 (hS : Sh ρ τ) : τ.2.1 194 = 20 := (hS.1 194 (by decide)).2
theorem k_195 (hS : Sh ρ τ) : τ.1 195 = 15 := (hS.1 195 (by decide)).1
theorem l_195 (hS : Sh ρ τ) : τ.2.1 195 = 20 := (hS.1 195 (by decide)).2
theorem k_196 (hS : Sh ρ τ) : τ.1 196 = 15 := (hS.1 196 (by decide)).1
theorem l_196 (hS : Sh ρ τ) : τ.2.1 196 = 16 := (hS.1 196 (by decide)).2
theorem k_197 (hS : Sh ρ τ) : τ.1 197 = 15 := (hS.1 197 (by decide)).1
theorem l_197 (hS : Sh ρ τ) : τ.2.1 197 = 16 := (hS.1 197 (by decide)).2
theorem k_198 (hS : Sh ρ τ) : τ.1 198 = 15 := (hS.1 198 (by decide)).1
theorem l_198 (hS : Sh ρ τ) : τ.2.1 198 = 16 := (hS.1 198 (by decide)).2
theorem k_199 (hS : Sh ρ τ) : τ.1 199 = 15 := (hS.1 199 (by decide)).1
theorem l_199 (hS : Sh ρ τ) : τ.2.1 199 = 24 := (hS.1 199 (by decide)).2
theorem k_200 (hS : Sh ρ τ) : τ.1 200 = 15 := (hS.1 200 (by decide)).1
theorem l_200 (hS : Sh ρ τ) : τ.2.1 200 = 8 := (hS.1 200 (by decide)).2
theorem k_201 (hS : Sh ρ τ) : τ.1 201 = 22 := (hS.1 201 (by decide)).1
theorem l_201 (hS : Sh ρ τ) : τ.2.1 201 = 40 := (hS.1 201 (by decide)).2
theorem k_202 (hS : Sh ρ τ) : τ.1 202 = 22 := (hS.1 202 (by decide)).1
theorem l_202 (hS : Sh ρ τ) : τ.2.1 202 = 40 := (hS.1 202 (by decide)).2
theorem k_203 (hS : Sh ρ τ) : τ.1 203 = 15 := (hS.1 203 (by decide)).1
theorem l_203 (hS : Sh ρ τ) : τ.2.1 203 = 240 := (hS.1 203 (by decide)).2
theorem k_204 (hS : Sh ρ τ) : τ.1 204 = 15 := (hS.1 204 (by decide)).1
theorem l_204 (hS : Sh ρ τ) : τ.2.1 204 = 16 := (hS.1 204 (by decide)).2
theorem k_205 (hS : Sh ρ τ) : τ.1 205 = 15 := (hS.1 205 (by decide)).1
theorem l_205 (hS : Sh ρ τ) : τ.2.1 205 = 16 := (hS.1 205 (by decide)).2
theorem k_206 (hS : Sh ρ τ) : τ.1 206 = 16 := (hS.1 206 (by decide)).1
theorem l_206 (hS : Sh ρ τ) : τ.2.1 206 = 160 := (hS.1 206 (by decide)).2
theorem k_207 (hS : Sh ρ τ) : τ.1 207 = 15 := (hS.1 207 (by decide)).1
theorem l_207 (hS : Sh ρ τ) : τ.2.1 207 = 4 := (hS.1 207 (by decide)).2
theorem k_208 (hS : Sh ρ τ) : τ.1 208 = 15 := (hS.1 208 (by decide)).1
theorem l_208 (hS : Sh ρ τ) : τ.2.1 208 = 4 := (hS.1 208 (by decide)).2
theorem k_209 (hS : Sh ρ τ) : τ.1 209 = 15 := (hS.1 209 (by decide)).1
theorem l_209 (hS : Sh ρ τ) : τ.2.1 209 = 4 := (hS.1 209 (by decide)).2
theorem k_210 (hS : Sh ρ τ) : τ.1 210 = 15 := (hS.1 210 (by decide)).1
theorem l_210 (hS : Sh ρ τ) : τ.2.1 210 = 4 := (hS.1 210 (by decide)).2
theorem k_211 (hS : Sh ρ τ) : τ.1 211 = 15 := (hS.1 211 (by decide)).1
theorem l_211 (hS : Sh ρ τ) : τ.2.1 211 = 4 := (hS.1 211 (by decide)).2
theorem k_212 (hS : Sh ρ τ) : τ.1 212 = 15 := (hS.1 212 (by decide)).1
theorem l_212 (hS : Sh ρ τ) : τ.2.1 212 = 30 := (hS.1 212 (by decide)).2
theorem k_213 (hS : Sh ρ τ) : τ.1 213 = 15 := (hS.1 213 (by decide)).1
theorem l_213 (hS : Sh ρ τ) : τ.2.1 213 = 369 := (hS.1 213 (by decide)).2
theorem k_214 (hS : Sh ρ τ) : τ.1 214 = 17 := (hS.1 214 (by decide)).1
theorem l_214 (hS : Sh ρ τ) : τ.2.1 214 = 256 := (hS.1 214 (by decide)).2
theorem k_215 (hS : Sh ρ τ) : τ.1 215 = 15 := (hS.1 215 (by decide)).1
theorem l_215 (hS : Sh ρ τ) : τ.2.1 215 = 16 := (hS.1 215 (by decide)).2
theorem k_216 (hS : Sh ρ τ) : τ.1 216 = 15 := (hS.1 216 (by decide)).1
theorem l_216 (hS : Sh ρ τ) : τ.2.1 216 = 16 := (hS.1 216 (by decide)).2
theorem k_217 (hS : Sh ρ τ) : τ.1 217 = 15 := (hS.1 217 (by decide)).1
theorem l_217 (hS : Sh ρ τ) : τ.2.1 217 = 16 := (hS.1 217 (by decide)).2
theorem k_218 (hS : Sh ρ τ) : τ.1 218 = 15 := (hS.1 218 (by decide)).1
theorem l_218 (hS : Sh ρ τ) : τ.2.1 218 = 3 := (hS.1 218 (by decide)).2
theorem k_219 (hS : Sh ρ τ) : τ.1 219 = 15 := (hS.1 219 (by decide)).1
theorem l_219 (hS : Sh ρ τ) : τ.2.1 219 = 20 := (hS.1 219 (by decide)).2
theorem k_220 (hS : Sh ρ τ) : τ.1 220 = 17 := (hS.1 220 (by decide)).1
theorem l_220 (hS : Sh ρ τ) : τ.2.1 220 = 20 := (hS.1 220 (by decide)).2
theorem r_0_0 (hS : Sh ρ τ) : ρ 0 0 = some 1 := hS.2.1 (0, 0, 1) (by decide +kernel)
theorem r_0_1 (hS : Sh ρ τ) : ρ 0 1 = some 66 := hS.2.1 (0, 1, 66) (by decide +kernel)
theorem r_0_3 (hS : Sh ρ τ) : ρ 0 3 = some 131 := hS.2.1 (0, 3, 131) (by decide +kernel)
theorem r_0_4 (hS : Sh ρ τ) : ρ 0 4 = some 135 := hS.2.1 (0, 4, 135) (by decide +kernel)
theorem r_0_5 (hS : Sh ρ τ) : ρ 0 5 = some 140 := hS.2.1 (0, 5, 140) (by decide +kernel)
theorem r_0_6 (hS : Sh ρ τ) : ρ 0 6 = some 143 := hS.2.1 (0, 6, 143) (by decide +kernel)
theorem r_0_7 (hS : Sh ρ τ) : ρ 0 7 = some 145 := hS.2.1 (0, 7, 145) (by decide +kernel)
theorem r_0_8 (hS : Sh ρ τ) : ρ 0 8 = some 156 := hS.2.1 (0, 8, 156) (by decide +kernel)
theorem r_0_9 (hS : Sh ρ τ) : ρ 0 9 = some 158 := hS.2.1 (0, 9, 158) (by decide +kernel)
theorem r_0_10 (hS : Sh ρ τ) : ρ 0 10 = some 159 := hS.2.1 (0, 10, 159) (by decide +kernel)
theorem r_1_2 (hS : Sh ρ τ) : ρ 1 2 = some 2 := hS.2.1 (1, 2, 2) (by decide +kernel)
theorem r_1_3 (hS : Sh ρ τ) : ρ 1 3 = some 3 := hS.2.1 (1, 3, 3) (by decide +kernel)
theorem r_1_4 (hS : Sh ρ τ) : ρ 1 4 = some 4 := hS.2.1 (1, 4, 4) (by decide +kernel)
theorem r_1_5 (hS : Sh ρ τ) : ρ 1 5 = some 5 := hS.2.1 (1, 5, 5) (by decide +kernel)
theorem r_1_7 (hS : Sh ρ τ) : ρ 1 7 = some 6 := hS.2.1 (1, 7, 6) (by decide +kernel)
theorem r_1_9 (hS : Sh ρ τ) : ρ 1 9 = some 7 := hS.2.1 (1, 9, 7) (by decide +kernel)
theorem r_1_10 (hS : Sh ρ τ) : ρ 1 10 = some 9 := hS.2.1 (1, 10, 9) (by decide +kernel)
theorem r_1_12 (hS : Sh ρ τ) : ρ 1 12 = some 10 := hS.2.1 (1, 12, 10) (by decide +kernel)
theorem r_1_13 (hS : Sh ρ τ) : ρ 1 13 = some 12 := hS.2.1 (1, 13, 12) (by decide +kernel)
theorem r_1_14 (hS : Sh ρ τ) : ρ 1 14 = some 14 := hS.2.1 (1, 14, 14) (by decide +kernel)
theorem r_1_15 (hS : Sh ρ τ) : ρ 1 15 = some 16 := hS.2.1 (1, 15, 16) (by decide +kernel)
theorem r_7_1 (hS : Sh ρ τ) : ρ 7 1 = some 8 := hS.2.1 (7, 1, 8) (by decide +kernel)
theorem r_10_2 (hS : Sh ρ τ) : ρ 10 2 = some 11 := hS.2.1 (10, 2, 11) (by decide +kernel)
theorem r_12_2 (hS : Sh ρ τ) : ρ 12 2 = some 13 := hS.2.1 (12, 2, 13) (by decide +kernel)
theorem r_14_2 (hS : Sh ρ τ) : ρ 14 2 = some 15 := hS.2.1 (14, 2, 15) (by decide +kernel)
theorem r_16_2 (hS : Sh ρ τ) : ρ 16 2 = some 17 := hS.2.1 (16, 2, 17) (by decide +kernel)
theorem r_66_2 (hS : Sh ρ τ) : ρ 66 2 = some 67 := hS.2.1 (66, 2, 67) (by decide +kernel)
theorem r_66_3 (hS : Sh ρ τ) : ρ 66 3 = some 68 := hS.2.1 (66, 3, 68) (by decide +kernel)
theorem r_66_4 (hS : Sh ρ τ) : ρ 66 4 = some 69 := hS.2.1 (66, 4, 69) (by decide +kernel)
theorem r_66_5 (hS : Sh ρ τ) : ρ 66 5 = some 70 := hS.2.1 (66, 5, 70) (by decide +kernel)
theorem r_66_7 (hS : Sh ρ τ) : ρ 66 7 = some 71 := hS.2.1 (66, 7, 71) (by decide +kernel)
theorem r_66_9 (hS : Sh ρ τ) : ρ 66 9 = some 72 := hS.2.1 (66, 9, 72) (by decide +kernel)
theorem r_66_10 (hS : Sh ρ τ) : ρ 66 10 = some 74 := hS.2.1 (66, 10, 74) (by decide +kernel)
theorem r_66_12 (hS : Sh ρ τ) : ρ 66 12 = some 75 := hS.2.1 (66, 12, 75) (by decide +kernel)
theorem r_66_13 (hS : Sh ρ τ) : ρ 66 13 = some 77 := hS.2.1 (66, 13, 77) (by decide +kernel)
theorem r_66_14 (hS : Sh ρ τ) : ρ 66 14 = some 79 := hS.2.1 (66, 14, 79) (by decide +kernel)
theorem r_66_15 (hS : Sh ρ τ) : ρ 66 15 = some 81 := hS.2.1 (66, 15, 81) (by decide +kernel)
theorem r_72_1 (hS : Sh ρ τ) : ρ 72 1 = some 73 := hS.2.1 (72, 1, 73) (by decide +kernel)
theorem r_75_2 (hS : Sh ρ τ) : ρ 75 2 = some 76 := hS.2.1 (75, 2, 76) (by decide +kernel)
theorem r_77_2 (hS : Sh ρ τ) : ρ 77 2 = some 78 := hS.2.1 (77, 2, 78) (by decide +kernel)
theorem r_79_2 (hS : Sh ρ τ) : ρ 79 2 = some 80 := hS.2.1 (79, 2, 80) (by decide +kernel)
theorem r_81_2 (hS : Sh ρ τ) : ρ 81 2 = some 82 := hS.2.1 (81, 2, 82) (by decide +kernel)
theorem r_131_0 (hS : Sh ρ τ) : ρ 131 0 = some 132 := hS.2.1 (131, 0, 132) (by decide +kernel)
theorem r_131_6 (hS : Sh ρ τ) : ρ 131 6 = some 133 := hS.2.1 (131, 6, 133) (by decide +kernel)
theorem r_131_8 (hS : Sh ρ τ) : ρ 131 8 = some 134 := hS.2.1 (131, 8, 134) (by decide +kernel)
theorem r_135_0 (hS : Sh ρ τ) : ρ 135 0 = some 136 := hS.2.1 (135, 0, 136) (by decide +kernel)
theorem r_135_1 (hS : Sh ρ τ) : ρ 135 1 = some 137 := hS.2.1 (135, 1, 137) (by decide +kernel)
theorem r_135_2 (hS : Sh ρ τ) : ρ 135 2 = some 138 := hS.2.1 (135, 2, 138) (by decide +kernel)
theorem r_135_3 (hS : Sh ρ τ) : ρ 135 3 = some 139 := hS.2.1 (135, 3, 139) (by decide +kernel)
theorem r_140_0 (hS : Sh ρ τ) : ρ 140 0 = some 141 := hS.2.1 (140, 0, 141) (by decide +kernel)
theorem r_140_1 (hS : Sh ρ τ) : ρ 140 1 = some 142 := hS.2.1 (140, 1, 142) (by decide +kernel)
theorem r_143_2 (hS : Sh ρ τ) : ρ 143 2 = some 144 := hS.2.1 (143, 2, 144) (by decide +kernel)
theorem r_145_0 (hS : Sh ρ τ) : ρ 145 0 = some 146 := hS.2.1 (145, 0, 146) (by decide +kernel)
theorem r_145_1 (hS : Sh ρ τ) : ρ 145 1 = some 147 := hS.2.1 (145, 1, 147) (by decide +kernel)
theorem r_145_2 (hS : Sh ρ τ) : ρ 145 2 = some 148 := hS.2.1 (145, 2, 148) (by decide +kernel)
theorem r_145_3 (hS : Sh ρ τ) : ρ 145 3 = some 153 := hS.2.1 (145, 3, 153) (by decide +kernel)
theorem r_145_4 (hS : Sh ρ τ) : ρ 145 4 = some 154 := hS.2.1 (145, 4, 154) (by decide +kernel)
theorem r_145_5 (hS : Sh ρ τ) : ρ 145 5 = some 155 := hS.2.1 (145, 5, 155) (by decide +kernel)
theorem r_156_5 (hS : Sh ρ τ) : ρ 156 5 = some 157 := hS.2.1 (156, 5, 157) (by decide +kernel)
theorem r_160_0 (hS : Sh ρ τ) : ρ 160 0 = some 161 := hS.2.1 (160, 0, 161) (by decide +kernel)
theorem r_160_1 (hS : Sh ρ τ) : ρ 160 1 = some 162 := hS.2.1 (160, 1, 162) (by decide +kernel)
theorem r_160_2 (hS : Sh ρ τ) : ρ 160 2 = some 163 := hS.2.1 (160, 2, 163) (by decide +kernel)
theorem r_160_3 (hS : Sh ρ τ) : ρ 160 3 = some 164 := hS.2.1 (160, 3, 164) (by decide +kernel)
theorem r_160_4 (hS : Sh ρ τ) : ρ 160 4 = some 165 := hS.2.1 (160, 4, 165) (by decide +kernel)
theorem r_160_5 (hS : Sh ρ τ) : ρ 160 5 = some 166 := hS.2.1 (160, 5, 166) (by decide +kernel)
theorem r_160_6 (hS : Sh ρ τ) : ρ 160 6 = some 167 := hS.2.1 (160, 6, 167) (by decide +kernel)
theorem r_160_7 (hS : Sh ρ τ) : ρ 160 7 = some 168 := hS.2.1 (160, 7, 168) (by decide +kernel)
theorem r_160_8 (hS : Sh ρ τ) : ρ 160 8 = some 169 := hS.2.1 (160, 8, 169) (by decide +kernel)
theorem r_160_9 (hS : Sh ρ τ) : ρ 160 9 = some 170 := hS.2.1 (160, 9, 170) (by decide +kernel)
theorem r_160_10 (hS : Sh ρ τ) : ρ 160 10 = some 171 := hS.2.1 (160, 10, 171) (by decide +kernel)
theorem r_160_11 (hS : Sh ρ τ) : ρ 160 11 = some 172 := hS.2.1 (160, 11, 172) (by decide +kernel)
theorem r_160_12 (hS : Sh ρ τ) : ρ 160 12 = some 173 := hS.2.1 (160, 12, 173) (by decide +kernel)
theorem r_160_13 (hS : Sh ρ τ) : ρ 160 13 = some 174 := hS.2.1 (160, 13, 174) (by decide +kernel)
theorem r_160_14 (hS : Sh ρ τ) : ρ 160 14 = some 175 := hS.2.1 (160, 14, 175) (by decide +kernel)
theorem r_160_15 (hS : Sh ρ τ) : ρ 160 15 = some 176 := hS.2.1 (160, 15, 176) (by decide +kernel)
theorem r_160_16 (hS : Sh ρ τ) : ρ 160 16 = some 177 := hS.2.1 (160, 16, 177) (by decide +kernel)
theorem r_160_17 (hS : Sh ρ τ) : ρ 160 17 = some 178 := hS.2.1 (160, 17, 178) (by decide +kernel)
theorem r_160_18 (hS : Sh ρ τ) : ρ 160 18 = some 179 := hS.2.1 (160, 18, 179) (by decide +kernel)
theorem r_160_19 (hS : Sh ρ τ) : ρ 160 19 = some 180 := hS.2.1 (160, 19, 180) (by decide +kernel)
theorem r_160_20 (hS : Sh ρ τ) : ρ 160 20 = some 181 := hS.2.1 (160, 20, 181) (by decide +kernel)
theorem r_160_21 (hS : Sh ρ τ) : ρ 160 21 = some 182 := hS.2.1 (160, 21, 182) (by decide +kernel)
theorem r_160_22 (hS : Sh ρ τ) : ρ 160 22 = some 183 := hS.2.1 (160, 22, 183) (by decide +kernel)
theorem r_160_23 (hS : Sh ρ τ) : ρ 160 23 = some 184 := hS.2.1 (160, 23, 184) (by decide +kernel)
theorem r_160_24 (hS : Sh ρ τ) : ρ 160 24 = some 185 := hS.2.1 (160, 24, 185) (by decide +kernel)
theorem r_160_25 (hS : Sh ρ τ) : ρ 160 25 = some 186 := hS.2.1 (160, 25, 186) (by decide +kernel)
theorem r_160_26 (hS : Sh ρ τ) : ρ 160 26 = some 187 := hS.2.1 (160, 26, 187) (by decide +kernel)
theorem r_160_27 (hS : Sh ρ τ) : ρ 160 27 = some 188 := hS.2.1 (160, 27, 188) (by decide +kernel)
theorem r_160_28 (hS : Sh ρ τ) : ρ 160 28 = some 189 := hS.2.1 (160, 28, 189) (by decide +kernel)
theorem r_160_29 (hS : Sh ρ τ) : ρ 160 29 = some 190 := hS.2.1 (160, 29, 190) (by decide +kernel)
theorem r_160_30 (hS : Sh ρ τ) : ρ 160 30 = some 191 := hS.2.1 (160, 30, 191) (by decide +kernel)
theorem r_160_31 (hS : Sh ρ τ) : ρ 160 31 = some 192 := hS.2.1 (160, 31, 192) (by decide +kernel)
theorem r_160_32 (hS : Sh ρ τ) : ρ 160 32 = some 193 := hS.2.1 (160, 32, 193) (by decide +kernel)
theorem r_160_33 (hS : Sh ρ τ) : ρ 160 33 = some 194 := hS.2.1 (160, 33, 194) (by decide +kernel)
theorem r_160_34 (hS : Sh ρ τ) : ρ 160 34 = some 195 := hS.2.1 (160, 34, 195) (by decide +kernel)
theorem r_160_35 (hS : Sh ρ τ) : ρ 160 35 = some 196 := hS.2.1 (160, 35, 196) (by decide +kernel)
theorem r_160_36 (hS : Sh ρ τ) : ρ 160 36 = some 197 := hS.2.1 (160, 36, 197) (by decide +kernel)
theorem r_160_37 (hS : Sh ρ τ) : ρ 160 37 = some 198 := hS.2.1 (160, 37, 198) (by decide +kernel)
theorem r_160_38 (hS : Sh ρ τ) : ρ 160 38 = some 199 := hS.2.1 (160, 38, 199) (by decide +kernel)
theorem r_160_39 (hS : Sh ρ τ) : ρ 160 39 = some 200 := hS.2.1 (160, 39, 200) (by decide +kernel)
theorem r_160_40 (hS : Sh ρ τ) : ρ 160 40 = some 201 := hS.2.1 (160, 40, 201) (by decide +kernel)
theorem r_160_41 (hS : Sh ρ τ) : ρ 160 41 = some 202 := hS.2.1 (160, 41, 202) (by decide +kernel)
theorem r_160_43 (hS : Sh ρ τ) : ρ 160 43 = some 203 := hS.2.1 (160, 43, 203) (by decide +kernel)
theorem r_160_45 (hS : Sh ρ τ) : ρ 160 45 = some 204 := hS.2.1 (160, 45, 204) (by decide +kernel)
theorem r_160_46 (hS : Sh ρ τ) : ρ 160 46 = some 205 := hS.2.1 (160, 46, 205) (by decide +kernel)
theorem r_160_48 (hS : Sh ρ τ) : ρ 160 48 = some 206 := hS.2.1 (160, 48, 206) (by decide +kernel)
theorem r_160_49 (hS : Sh ρ τ) : ρ 160 49 = some 207 := hS.2.1 (160, 49, 207) (by decide +kernel)
theorem r_160_50 (hS : Sh ρ τ) : ρ 160 50 = some 208 := hS.2.1 (160, 50, 208) (by decide +kernel)
theorem r_160_51 (hS : Sh ρ τ) : ρ 160 51 = some 209 := hS.2.1 (160, 51, 209) (by decide +kernel)
theorem r_160_52 (hS : Sh ρ τ) : ρ 160 52 = some 210 := hS.2.1 (160, 52, 210) (by decide +kernel)
theorem r_160_53 (hS : Sh ρ τ) : ρ 160 53 = some 211 := hS.2.1 (160, 53, 211) (by decide +kernel)
theorem r_160_54 (hS : Sh ρ τ) : ρ 160 54 = some 212 := hS.2.1 (160, 54, 212) (by decide +kernel)
theorem r_160_56 (hS : Sh ρ τ) : ρ 160 56 = some 213 := hS.2.1 (160, 56, 213) (by decide +kernel)
theorem r_160_63 (hS : Sh ρ τ) : ρ 160 63 = some 214 := hS.2.1 (160, 63, 214) (by decide +kernel)
theorem r_160_64 (hS : Sh ρ τ) : ρ 160 64 = some 215 := hS.2.1 (160, 64, 215) (by decide +kernel)
theorem r_160_65 (hS : Sh ρ τ) : ρ 160 65 = some 216 := hS.2.1 (160, 65, 216) (by decide +kernel)
theorem r_160_66 (hS : Sh ρ τ) : ρ 160 66 = some 217 := hS.2.1 (160, 66, 217) (by decide +kernel)
theorem r_160_67 (hS : Sh ρ τ) : ρ 160 67 = some 218 := hS.2.1 (160, 67, 218) (by decide +kernel)
theorem r_160_68 (hS : Sh ρ τ) : ρ 160 68 = some 219 := hS.2.1 (160, 68, 219) (by decide +kernel)
theorem r_160_69 (hS : Sh ρ τ) : ρ 160 69 = some 220 := hS.2.1 (160, 69, 220) (by decide +kernel)
theorem k_pv (hS : Sh ρ τ) {p : Nat} (h : p < 8) : τ.1 (18 + 2 * p) = 7 := by
  have e := (hS.1 (18 + 2 * p) (by omega)).1
  have q : ∀ p, p < 8 → sh_K.getD (18 + 2 * p) 99 = 7 := by decide
  rw [e, q p h]
theorem k_pvr (hS : Sh ρ τ) {p : Nat} (h : p < 8) : τ.1 (19 + 2 * p) = 15 := by
  have e := (hS.1 (19 + 2 * p) (by omega)).1
  have q : ∀ p, p < 8 → sh_K.getD (19 + 2 * p) 99 = 15 := by decide
  rw [e, q p h]
theorem l_pvr (hS : Sh ρ τ) {p : Nat} (h : p < 8) : τ.2.1 (19 + 2 * p) = 3 := by
  have e := (hS.1 (19 + 2 * p) (by omega)).2
  have q : ∀ p, p < 8 → sh_L.getD (19 + 2 * p) 0 = 3 := by decide
  rw [e, q p h]
theorem k_pw (hS : Sh ρ τ) {p : Nat} (h : p < 8) : τ.1 (83 + 2 * p) = 7 := by
  have e := (hS.1 (83 + 2 * p) (by omega)).1
  have q : ∀ p, p < 8 → sh_K.getD (83 + 2 * p) 99 = 7 := by decide
  rw [e, q p h]
theorem k_pwr (hS : Sh ρ τ) {p : Nat} (h : p < 8) : τ.1 (84 + 2 * p) = 15 := by
  have e := (hS.1 (84 + 2 * p) (by omega)).1
  have q : ∀ p, p < 8 → sh_K.getD (84 + 2 * p) 99 = 15 := by decide
  rw [e, q p h]
theorem l_pwr (hS : Sh ρ τ) {p : Nat} (h : p < 8) : τ.2.1 (84 + 2 * p) = 3 := by
  have e := (hS.1 (84 + 2 * p) (by omega)).2
  have q : ∀ p, p < 8 → sh_L.getD (84 + 2 * p) 0 = 3 := by decide
  rw [e, q p h]
theorem k_db (hS : Sh ρ τ) {p : Nat} (h : p < 16) : τ.1 (34 + 2 * p) = 1 := by
  have e := (hS.1 (34 + 2 * p) (by omega)).1
  have q : ∀ p, p < 16 → sh_K.getD (34 + 2 * p) 99 = 1 := by decide
  rw [e, q p h]
theorem k_dbr (hS : Sh ρ τ) {p : Nat} (h : p < 16) : τ.1 (35 + 2 * p) = 15 := by
  have e := (hS.1 (35 + 2 * p) (by omega)).1
  have q : ∀ p, p < 16 → sh_K.getD (35 + 2 * p) 99 = 15 := by decide
  rw [e, q p h]
theorem l_dbr (hS : Sh ρ τ) {p : Nat} (h : p < 16) : τ.2.1 (35 + 2 * p) = 7 := by
  have e := (hS.1 (35 + 2 * p) (by omega)).2
  have q : ∀ p, p < 16 → sh_L.getD (35 + 2 * p) 0 = 7 := by decide
  rw [e, q p h]
theorem k_dw (hS : Sh ρ τ) {p : Nat} (h : p < 16) : τ.1 (99 + 2 * p) = 1 := by
  have e := (hS.1 (99 + 2 * p) (by omega)).1
  have q : ∀ p, p < 16 → sh_K.getD (99 + 2 * p) 99 = 1 := by decide
  rw [e, q p h]
theorem k_dwr (hS : Sh ρ τ) {p : Nat} (h : p < 16) : τ.1 (100 + 2 * p) = 15 := by
  have e := (hS.1 (100 + 2 * p) (by omega)).1
  have q : ∀ p, p < 16 → sh_K.getD (100 + 2 * p) 99 = 15 := by decide
  rw [e, q p h]
theorem l_dwr (hS : Sh ρ τ) {p : Nat} (h : p < 16) : τ.2.1 (100 + 2 * p) = 7 := by
  have e := (hS.1 (100 + 2 * p) (by omega)).2
  have q : ∀ p, p < 16 → sh_L.getD (100 + 2 * p) 0 = 7 := by decide
  rw [e, q p h]
theorem r_5 (hS : Sh ρ τ) {p : Nat} (h : p < 8) : ρ 5 p = some (18 + 2 * p) := (hS.2.2.1 p h).1
theorem r_70 (hS : Sh ρ τ) {p : Nat} (h : p < 8) : ρ 70 p = some (83 + 2 * p) := (hS.2.2.1 p h).2.1
theorem r_pv (hS : Sh ρ τ) {p : Nat} (h : p < 8) : ρ (18 + 2 * p) 4 = some (19 + 2 * p) := (hS.2.2.1 p h).2.2.1
theorem r_pw (hS : Sh ρ τ) {p : Nat} (h : p < 8) : ρ (83 + 2 * p) 4 = some (84 + 2 * p) := (hS.2.2.1 p h).2.2.2
theorem r_6 (hS : Sh ρ τ) {p : Nat} (h : p < 16) : ρ 6 p = some (34 + 2 * p) := (hS.2.2.2.1 p h).1
theorem r_71 (hS : Sh ρ τ) {p : Nat} (h : p < 16) : ρ 71 p = some (99 + 2 * p) := (hS.2.2.2.1 p h).2.1
theorem r_db (hS : Sh ρ τ) {p : Nat} (h : p < 16) : ρ (34 + 2 * p) 9 = some (35 + 2 * p) := (hS.2.2.2.1 p h).2.2.1
theorem r_dw (hS : Sh ρ τ) {p : Nat} (h : p < 16) : ρ (99 + 2 * p) 9 = some (100 + 2 * p) := (hS.2.2.2.1 p h).2.2.2
theorem r_148 (hS : Sh ρ τ) {p : Nat} (h : p < 4) : ρ 148 p = some (149 + p) := hS.2.2.2.2.1 p h
theorem k_sh (hS : Sh ρ τ) {p : Nat} (h : p < 4) : τ.1 (149 + p) = 15 := by
  have e := (hS.1 (149 + p) (by omega)).1
  have q : ∀ p, p < 4 → sh_K.getD (149 + p) 99 = 15 := by decide
  rw [e, q p h]
theorem l_sh (hS : Sh ρ τ) {p : Nat} (h : p < 4) : τ.2.1 (149 + p) = 40 := by
  have e := (hS.1 (149 + p) (by omega)).2
  have q : ∀ p, p < 4 → sh_L.getD (149 + p) 0 = 40 := by decide
  rw [e, q p h]
theorem r_201 (hS : Sh ρ τ) {p : Nat} (h : p < 40) : ρ 201 p = some (161 + p) := (hS.2.2.2.2.2.1 p h).1
theorem r_202 (hS : Sh ρ τ) {p : Nat} (h : p < 40) : ρ 202 p = some (221 + p) := (hS.2.2.2.2.2.1 p h).2
end SH
