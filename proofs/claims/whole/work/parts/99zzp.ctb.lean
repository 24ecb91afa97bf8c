/-! the single steps of the constructors -/
section CTB
variable {xs : Nat → Int32} {L fl : Nat}
theorem nw_0 : am_new 11 11 (usn xs 0) (urn 0) am_g0 (utn L fl 0) = (usn xs 0, urn 0, am_g0, utn L fl 1) := new_n (by decide +kernel) (by decide +kernel) (by decide +kernel) (by decide +kernel) (by decide +kernel) (by decide)
theorem nw_1 : am_new 3 16 (usn xs 0) (urn 0) am_g0 (utn L fl 1) = (usn xs 0, urn 0, am_g0, utn L fl 2) := new_n (by decide +kernel) (by decide +kernel) (by decide +kernel) (by decide +kernel) (by decide +kernel) (by decide)
theorem tk_1 {n : Nat} (h : 1 < n) : (utn L fl n).1 1 = 3 := (utn_k h).trans (by decide +kernel)
theorem ws_0 : am_u (usn xs 0) 1 0 0 = usn xs 1 := usn_s (by decide +kernel)
theorem ws_1 : am_u (usn xs 1) 1 1 0 = usn xs 2 := usn_s (by decide +kernel)
theorem nw_2 : am_new 15 3 (usn xs 2) (urn 0) am_g0 (utn L fl 2) = (usn xs 2, urn 0, am_g0, utn L fl 3) := new_n (by decide +kernel) (by decide +kernel) (by decide +kernel) (by decide +kernel) (by decide +kernel) (by decide)
theorem fc_3 : (3 : Int32).toNatClampNeg = 3 := by decide
theorem flt_3_0 : ((3 : Int32) < 0) = False := by decide
theorem wr_0 : am_u (urn 0) 1 2 (some 2) = urn 1 := urn_s (by decide +kernel)
theorem nw_3 : am_new 15 12 (usn xs 2) (urn 1) am_g0 (utn L fl 3) = (usn xs 2, urn 1, am_g0, utn L fl 4) := new_n (by decide +kernel) (by decide +kernel) (by decide +kernel) (by decide +kernel) (by decide +kernel) (by decide)
theorem fc_12 : (12 : Int32).toNatClampNeg = 12 := by decide
theorem flt_12_0 : ((12 : Int32) < 0) = False := by decide
theorem wr_1 : am_u (urn 1) 1 3 (some 3) = urn 2 := urn_s (by decide +kernel)
theorem nw_4 : am_new 15 5 (usn xs 2) (urn 2) am_g0 (utn L fl 4) = (usn xs 2, urn 2, am_g0, utn L fl 5) := new_n (by decide +kernel) (by decide +kernel) (by decide +kernel) (by decide +kernel) (by decide +kernel) (by decide)
theorem fc_5 : (5 : Int32).toNatClampNeg = 5 := by decide
theorem flt_5_0 : ((5 : Int32) < 0) = False := by decide
theorem wr_2 : am_u (urn 2) 1 4 (some 4) = urn 3 := urn_s (by decide +kernel)
theorem nw_5 : am_new 20 8 (usn xs 2) (urn 3) am_g0 (utn L fl 5) = (usn xs 2, urn 3, am_g0, utn L fl 6) := new_n (by decide +kernel) (by decide +kernel) (by decide +kernel) (by decide +kernel) (by decide +kernel) (by decide)
theorem fc_8 : (8 : Int32).toNatClampNeg = 8 := by decide
theorem flt_8_0 : ((8 : Int32) < 0) = False := by decide
theorem wr_3 : am_u (urn 3) 1 5 (some 5) = urn 4 := urn_s (by decide +kernel)
theorem ws_2 : am_u (usn xs 2) 1 6 0 = usn xs 3 := usn_s (by decide +kernel)
theorem nw_6 : am_new 18 16 (usn xs 3) (urn 4) am_g0 (utn L fl 6) = (usn xs 3, urn 4, am_g0, utn L fl 7) := new_n (by decide +kernel) (by decide +kernel) (by decide +kernel) (by decide +kernel) (by decide +kernel) (by decide)
theorem fc_16 : (16 : Int32).toNatClampNeg = 16 := by decide
theorem flt_16_0 : ((16 : Int32) < 0) = False := by decide
theorem wr_4 : am_u (urn 4) 1 7 (some 6) = urn 5 := urn_s (by decide +kernel)
theorem ws_3 : am_u (usn xs 3) 1 8 0 = usn xs 4 := usn_s (by decide +kernel)
theorem nw_7 : am_new 9 2 (usn xs 4) (urn 5) am_g0 (utn L fl 7) = (usn xs 4, urn 5, am_g0, utn L fl 8) := new_n (by decide +kernel) (by decide +kernel) (by decide +kernel) (by decide +kernel) (by decide +kernel) (by decide)
theorem nw_8 : am_new 19 0 (usn xs 4) (urn 5) am_g0 (utn L fl 8) = (usn xs 4, urn 5, am_g0, utn L fl 9) := new_n (by decide +kernel) (by decide +kernel) (by decide +kernel) (by decide +kernel) (by decide +kernel) (by decide)
theorem fc_0 : (0 : Int32).toNatClampNeg = 0 := by decide
theorem flt_0_0 : ((0 : Int32) < 0) = False := by decide
theorem tk_7 {n : Nat} (h : 7 < n) : (utn L fl n).1 7 = 9 := (utn_k h).trans (by decide +kernel)
theorem ws_4 : am_u (usn xs 4) 7 0 0 = usn xs 5 := usn_s (by decide +kernel)
theorem wr_5 : am_u (urn 5) 7 1 (some 8) = urn 6 := urn_s (by decide +kernel)
theorem wr_6 : am_u (urn 6) 1 9 (some 7) = urn 7 := urn_s (by decide +kernel)
theorem nw_9 : am_new 21 8 (usn xs 5) (urn 7) am_g0 (utn L fl 9) = (usn xs 5, urn 7, am_g0, utn L fl 10) := new_n (by decide +kernel) (by decide +kernel) (by decide +kernel) (by decide +kernel) (by decide +kernel) (by decide)
theorem wr_7 : am_u (urn 7) 1 10 (some 9) = urn 8 := urn_s (by decide +kernel)
theorem ws_5 : am_u (usn xs 5) 1 11 0 = usn xs 6 := usn_s (by decide +kernel)
theorem nw_10 : am_new 4 4 (usn xs 6) (urn 8) am_g0 (utn L fl 10) = (usn xs 6, urn 8, am_g0, utn L fl 11) := new_n (by decide +kernel) (by decide +kernel) (by decide +kernel) (by decide +kernel) (by decide +kernel) (by decide)
theorem tk_10 {n : Nat} (h : 10 < n) : (utn L fl n).1 10 = 4 := (utn_k h).trans (by decide +kernel)
theorem ws_6 : am_u (usn xs 6) 10 3 0 = usn xs 7 := usn_s (by decide +kernel)
theorem flt_0_6 : ((0 : Int32) < 6) = True := by decide
theorem fle_0_6 : ((0 : Int32) ≤ 6) = True := by decide
theorem flt_6_0 : ((6 : Int32) < 0) = False := by decide
theorem fle_6_0 : ((6 : Int32) ≤ 0) = False := by decide
theorem fe_0_6 : ((0 : Int32) = 6) = False := by decide
theorem ws_7 : am_u (usn xs 7) 10 0 6 = usn xs 8 := usn_s (by decide +kernel)
theorem flt_0_3 : ((0 : Int32) < 3) = True := by decide
theorem fle_0_3 : ((0 : Int32) ≤ 3) = True := by decide
theorem fle_3_0 : ((3 : Int32) ≤ 0) = False := by decide
theorem fe_0_3 : ((0 : Int32) = 3) = False := by decide
theorem ws_8 : am_u (usn xs 8) 10 1 3 = usn xs 9 := usn_s (by decide +kernel)
theorem qs_9_10_0 : usn xs 9 10 0 = 6 := (usn_at (by decide)).trans (by decide +kernel)
theorem qs_9_10_1 : usn xs 9 10 1 = 3 := (usn_at (by decide)).trans (by decide +kernel)
theorem fm_6_3 : (6 : Int32) * 3 = 18 := by decide
theorem nw_11 : am_new 15 18 (usn xs 9) (urn 8) am_g0 (utn L fl 11) = (usn xs 9, urn 8, am_g0, utn L fl 12) := new_n (by decide +kernel) (by decide +kernel) (by decide +kernel) (by decide +kernel) (by decide +kernel) (by decide)
theorem fc_18 : (18 : Int32).toNatClampNeg = 18 := by decide
theorem flt_18_0 : ((18 : Int32) < 0) = False := by decide
theorem wr_8 : am_u (urn 8) 10 2 (some 11) = urn 9 := urn_s (by decide +kernel)
theorem wr_9 : am_u (urn 9) 1 12 (some 10) = urn 10 := urn_s (by decide +kernel)
theorem nw_12 : am_new 4 4 (usn xs 9) (urn 10) am_g0 (utn L fl 12) = (usn xs 9, urn 10, am_g0, utn L fl 13) := new_n (by decide +kernel) (by decide +kernel) (by decide +kernel) (by decide +kernel) (by decide +kernel) (by decide)
theorem tk_12 {n : Nat} (h : 12 < n) : (utn L fl n).1 12 = 4 := (utn_k h).trans (by decide +kernel)
theorem ws_9 : am_u (usn xs 9) 12 3 0 = usn xs 10 := usn_s (by decide +kernel)
theorem flt_0_20 : ((0 : Int32) < 20) = True := by decide
theorem fle_0_20 : ((0 : Int32) ≤ 20) = True := by decide
theorem flt_20_0 : ((20 : Int32) < 0) = False := by decide
theorem fle_20_0 : ((20 : Int32) ≤ 0) = False := by decide
theorem fe_0_20 : ((0 : Int32) = 20) = False := by decide
theorem ws_10 : am_u (usn xs 10) 12 0 20 = usn xs 11 := usn_s (by decide +kernel)
theorem flt_0_5 : ((0 : Int32) < 5) = True := by decide
theorem fle_0_5 : ((0 : Int32) ≤ 5) = True := by decide
theorem fle_5_0 : ((5 : Int32) ≤ 0) = False := by decide
theorem fe_0_5 : ((0 : Int32) = 5) = False := by decide
theorem ws_11 : am_u (usn xs 11) 12 1 5 = usn xs 12 := usn_s (by decide +kernel)
theorem qs_12_12_0 : usn xs 12 12 0 = 20 := (usn_at (by decide)).trans (by decide +kernel)
theorem qs_12_12_1 : usn xs 12 12 1 = 5 := (usn_at (by decide)).trans (by decide +kernel)
theorem fm_20_5 : (20 : Int32) * 5 = 100 := by decide
theorem nw_13 : am_new 15 100 (usn xs 12) (urn 10) am_g0 (utn L fl 13) = (usn xs 12, urn 10, am_g0, utn L fl 14) := new_n (by decide +kernel) (by decide +kernel) (by decide +kernel) (by decide +kernel) (by decide +kernel) (by decide)
theorem fc_100 : (100 : Int32).toNatClampNeg = 100 := by decide
theorem flt_100_0 : ((100 : Int32) < 0) = False := by decide
theorem wr_10 : am_u (urn 10) 12 2 (some 13) = urn 11 := urn_s (by decide +kernel)
theorem wr_11 : am_u (urn 11) 1 13 (some 12) = urn 12 := urn_s (by decide +kernel)
theorem nw_14 : am_new 4 4 (usn xs 12) (urn 12) am_g0 (utn L fl 14) = (usn xs 12, urn 12, am_g0, utn L fl 15) := new_n (by decide +kernel) (by decide +kernel) (by decide +kernel) (by decide +kernel) (by decide +kernel) (by decide)
theorem tk_14 {n : Nat} (h : 14 < n) : (utn L fl n).1 14 = 4 := (utn_k h).trans (by decide +kernel)
theorem ws_12 : am_u (usn xs 12) 14 3 0 = usn xs 13 := usn_s (by decide +kernel)
theorem flt_0_16 : ((0 : Int32) < 16) = True := by decide
theorem fle_0_16 : ((0 : Int32) ≤ 16) = True := by decide
theorem fle_16_0 : ((16 : Int32) ≤ 0) = False := by decide
theorem fe_0_16 : ((0 : Int32) = 16) = False := by decide
theorem ws_13 : am_u (usn xs 13) 14 0 16 = usn xs 14 := usn_s (by decide +kernel)
theorem ws_14 : am_u (usn xs 14) 14 1 3 = usn xs 15 := usn_s (by decide +kernel)
theorem qs_15_14_0 : usn xs 15 14 0 = 16 := (usn_at (by decide)).trans (by decide +kernel)
theorem qs_15_14_1 : usn xs 15 14 1 = 3 := (usn_at (by decide)).trans (by decide +kernel)
theorem fm_16_3 : (16 : Int32) * 3 = 48 := by decide
theorem nw_15 : am_new 15 48 (usn xs 15) (urn 12) am_g0 (utn L fl 15) = (usn xs 15, urn 12, am_g0, utn L fl 16) := new_n (by decide +kernel) (by decide +kernel) (by decide +kernel) (by decide +kernel) (by decide +kernel) (by decide)
theorem fc_48 : (48 : Int32).toNatClampNeg = 48 := by decide
theorem flt_48_0 : ((48 : Int32) < 0) = False := by decide
theorem wr_12 : am_u (urn 12) 14 2 (some 15) = urn 13 := urn_s (by decide +kernel)
theorem wr_13 : am_u (urn 13) 1 14 (some 14) = urn 14 := urn_s (by decide +kernel)
theorem nw_16 : am_new 4 4 (usn xs 15) (urn 14) am_g0 (utn L fl 16) = (usn xs 15, urn 14, am_g0, utn L fl 17) := new_n (by decide +kernel) (by decide +kernel) (by decide +kernel) (by decide +kernel) (by decide +kernel) (by decide)
theorem tk_16 {n : Nat} (h : 16 < n) : (utn L fl n).1 16 = 4 := (utn_k h).trans (by decide +kernel)
theorem ws_15 : am_u (usn xs 15) 16 3 0 = usn xs 16 := usn_s (by decide +kernel)
theorem flt_0_8 : ((0 : Int32) < 8) = True := by decide
theorem fle_0_8 : ((0 : Int32) ≤ 8) = True := by decide
theorem fle_8_0 : ((8 : Int32) ≤ 0) = False := by decide
theorem fe_0_8 : ((0 : Int32) = 8) = False := by decide
theorem ws_16 : am_u (usn xs 16) 16 0 8 = usn xs 17 := usn_s (by decide +kernel)
theorem flt_0_4 : ((0 : Int32) < 4) = True := by decide
theorem fle_0_4 : ((0 : Int32) ≤ 4) = True := by decide
theorem flt_4_0 : ((4 : Int32) < 0) = False := by decide
theorem fle_4_0 : ((4 : Int32) ≤ 0) = False := by decide
theorem fe_0_4 : ((0 : Int32) = 4) = False := by decide
theorem ws_17 : am_u (usn xs 17) 16 1 4 = usn xs 18 := usn_s (by decide +kernel)
theorem qs_18_16_0 : usn xs 18 16 0 = 8 := (usn_at (by decide)).trans (by decide +kernel)
theorem qs_18_16_1 : usn xs 18 16 1 = 4 := (usn_at (by decide)).trans (by decide +kernel)
theorem fm_8_4 : (8 : Int32) * 4 = 32 := by decide
theorem nw_17 : am_new 15 32 (usn xs 18) (urn 14) am_g0 (utn L fl 17) = (usn xs 18, urn 14, am_g0, utn L fl 18) := new_n (by decide +kernel) (by decide +kernel) (by decide +kernel) (by decide +kernel) (by decide +kernel) (by decide)
theorem fc_32 : (32 : Int32).toNatClampNeg = 32 := by decide
theorem flt_32_0 : ((32 : Int32) < 0) = False := by decide
theorem wr_14 : am_u (urn 14) 16 2 (some 17) = urn 15 := urn_s (by decide +kernel)
theorem wr_15 : am_u (urn 15) 1 15 (some 16) = urn 16 := urn_s (by decide +kernel)
theorem qr_16_1_2 : urn 16 1 2 = some 2 := urn_at (by decide +kernel)
theorem tk_2 {n : Nat} (h : 2 < n) : (utn L fl n).1 2 = 15 := (utn_k h).trans (by decide +kernel)
theorem tl_2 {n : Nat} (h : 2 < n) : (utn L fl n).2.1 2 = 3 := (utn_l h).trans (by decide +kernel)
theorem qr_16_1_3 : urn 16 1 3 = some 3 := urn_at (by decide +kernel)
theorem tk_3 {n : Nat} (h : 3 < n) : (utn L fl n).1 3 = 15 := (utn_k h).trans (by decide +kernel)
theorem tl_3 {n : Nat} (h : 3 < n) : (utn L fl n).2.1 3 = 12 := (utn_l h).trans (by decide +kernel)
theorem qr_16_1_5 : urn 16 1 5 = some 5 := urn_at (by decide +kernel)
theorem nw_18 : am_new 7 5 (usn xs 33) (urn 16) am_g0 (utn L fl 18) = (usn xs 33, urn 16, am_g0, utn L fl 19) := new_n (by decide +kernel) (by decide +kernel) (by decide +kernel) (by decide +kernel) (by decide +kernel) (by decide)
theorem tk_18 {n : Nat} (h : 18 < n) : (utn L fl n).1 18 = 7 := (utn_k h).trans (by decide +kernel)
theorem ws_33 : am_u (usn xs 33) 18 0 0 = usn xs 34 := usn_s (by decide +kernel)
theorem ws_34 : am_u (usn xs 34) 18 1 1 = usn xs 35 := usn_s (by decide +kernel)
theorem ws_35 : am_u (usn xs 35) 18 2 0 = usn xs 36 := usn_s (by decide +kernel)
theorem ws_36 : am_u (usn xs 36) 18 3 0 = usn xs 37 := usn_s (by decide +kernel)
theorem nw_19 : am_new 15 3 (usn xs 37) (urn 16) am_g0 (utn L fl 19) = (usn xs 37, urn 16, am_g0, utn L fl 20) := new_n (by decide +kernel) (by decide +kernel) (by decide +kernel) (by decide +kernel) (by decide +kernel) (by decide)
theorem wr_16 : am_u (urn 16) 18 4 (some 19) = urn 17 := urn_s (by decide +kernel)
theorem tk_5 {n : Nat} (h : 5 < n) : (utn L fl n).1 5 = 20 := (utn_k h).trans (by decide +kernel)
theorem tl_5 {n : Nat} (h : 5 < n) : (utn L fl n).2.1 5 = 8 := (utn_l h).trans (by decide +kernel)
theorem fi_0_8 : am_inb (0 : Int32) 8 = true := by decide
theorem wr_17 : am_u (urn 17) 5 0 (some 18) = urn 18 := urn_s (by decide +kernel)
theorem fk_20 : am_elK 20 = 7 := by decide
theorem fa_0_1 : (0 : Int32) + 1 = 1 := by decide
theorem flt_1_8 : ((1 : Int32) < 8) = True := by decide
theorem fle_1_8 : ((1 : Int32) ≤ 8) = True := by decide
theorem flt_8_1 : ((8 : Int32) < 1) = False := by decide
theorem fle_8_1 : ((8 : Int32) ≤ 1) = False := by decide
theorem fe_1_8 : ((1 : Int32) = 8) = False := by decide
theorem qr_18_1_5 : urn 18 1 5 = some 5 := urn_at (by decide +kernel)
theorem nw_20 : am_new 7 5 (usn xs 37) (urn 18) am_g0 (utn L fl 20) = (usn xs 37, urn 18, am_g0, utn L fl 21) := new_n (by decide +kernel) (by decide +kernel) (by decide +kernel) (by decide +kernel) (by decide +kernel) (by decide)
theorem tk_20 {n : Nat} (h : 20 < n) : (utn L fl n).1 20 = 7 := (utn_k h).trans (by decide +kernel)
theorem ws_37 : am_u (usn xs 37) 20 0 0 = usn xs 38 := usn_s (by decide +kernel)
theorem ws_38 : am_u (usn xs 38) 20 1 1 = usn xs 39 := usn_s (by decide +kernel)
theorem ws_39 : am_u (usn xs 39) 20 2 0 = usn xs 40 := usn_s (by decide +kernel)
theorem ws_40 : am_u (usn xs 40) 20 3 0 = usn xs 41 := usn_s (by decide +kernel)
theorem nw_21 : am_new 15 3 (usn xs 41) (urn 18) am_g0 (utn L fl 21) = (usn xs 41, urn 18, am_g0, utn L fl 22) := new_n (by decide +kernel) (by decide +kernel) (by decide +kernel) (by decide +kernel) (by decide +kernel) (by decide)
theorem wr_18 : am_u (urn 18) 20 4 (some 21) = urn 19 := urn_s (by decide +kernel)
theorem fc_1 : (1 : Int32).toNatClampNeg = 1 := by decide
theorem fi_1_8 : am_inb (1 : Int32) 8 = true := by decide
theorem wr_19 : am_u (urn 19) 5 1 (some 20) = urn 20 := urn_s (by decide +kernel)
theorem fa_1_1 : (1 : Int32) + 1 = 2 := by decide
theorem flt_2_8 : ((2 : Int32) < 8) = True := by decide
theorem fle_2_8 : ((2 : Int32) ≤ 8) = True := by decide
theorem flt_8_2 : ((8 : Int32) < 2) = False := by decide
theorem fle_8_2 : ((8 : Int32) ≤ 2) = False := by decide
theorem fe_2_8 : ((2 : Int32) = 8) = False := by decide
theorem qr_20_1_5 : urn 20 1 5 = some 5 := urn_at (by decide +kernel)
theorem nw_22 : am_new 7 5 (usn xs 41) (urn 20) am_g0 (utn L fl 22) = (usn xs 41, urn 20, am_g0, utn L fl 23) := new_n (by decide +kernel) (by decide +kernel) (by decide +kernel) (by decide +kernel) (by decide +kernel) (by decide)
theorem tk_22 {n : Nat} (h : 22 < n) : (utn L fl n).1 22 = 7 := (utn_k h).trans (by decide +kernel)
theorem ws_41 : am_u (usn xs 41) 22 0 0 = usn xs 42 := usn_s (by decide +kernel)
theorem ws_42 : am_u (usn xs 42) 22 1 1 = usn xs 43 := usn_s (by decide +kernel)
theorem ws_43 : am_u (usn xs 43) 22 2 0 = usn xs 44 := usn_s (by decide +kernel)
theorem ws_44 : am_u (usn xs 44) 22 3 0 = usn xs 45 := usn_s (by decide +kernel)
theorem nw_23 : am_new 15 3 (usn xs 45) (urn 20) am_g0 (utn L fl 23) = (usn xs 45, urn 20, am_g0, utn L fl 24) := new_n (by decide +kernel) (by decide +kernel) (by decide +kernel) (by decide +kernel) (by decide +kernel) (by decide)
theorem wr_20 : am_u (urn 20) 22 4 (some 23) = urn 21 := urn_s (by decide +kernel)
theorem fc_2 : (2 : Int32).toNatClampNeg = 2 := by decide
theorem fi_2_8 : am_inb (2 : Int32) 8 = true := by decide
theorem wr_21 : am_u (urn 21) 5 2 (some 22) = urn 22 := urn_s (by decide +kernel)
theorem fa_2_1 : (2 : Int32) + 1 = 3 := by decide
theorem flt_3_8 : ((3 : Int32) < 8) = True := by decide
theorem fle_3_8 : ((3 : Int32) ≤ 8) = True := by decide
theorem flt_8_3 : ((8 : Int32) < 3) = False := by decide
theorem fle_8_3 : ((8 : Int32) ≤ 3) = False := by decide
theorem fe_3_8 : ((3 : Int32) = 8) = False := by decide
theorem qr_22_1_5 : urn 22 1 5 = some 5 := urn_at (by decide +kernel)
theorem nw_24 : am_new 7 5 (usn xs 45) (urn 22) am_g0 (utn L fl 24) = (usn xs 45, urn 22, am_g0, utn L fl 25) := new_n (by decide +kernel) (by decide +kernel) (by decide +kernel) (by decide +kernel) (by decide +kernel) (by decide)
theorem tk_24 {n : Nat} (h : 24 < n) : (utn L fl n).1 24 = 7 := (utn_k h).trans (by decide +kernel)
theorem ws_45 : am_u (usn xs 45) 24 0 0 = usn xs 46 := usn_s (by decide +kernel)
theorem ws_46 : am_u (usn xs 46) 24 1 1 = usn xs 47 := usn_s (by decide +kernel)
theorem ws_47 : am_u (usn xs 47) 24 2 0 = usn xs 48 := usn_s (by decide +kernel)
theorem ws_48 : am_u (usn xs 48) 24 3 0 = usn xs 49 := usn_s (by decide +kernel)
theorem nw_25 : am_new 15 3 (usn xs 49) (urn 22) am_g0 (utn L fl 25) = (usn xs 49, urn 22, am_g0, utn L fl 26) := new_n (by decide +kernel) (by decide +kernel) (by decide +kernel) (by decide +kernel) (by decide +kernel) (by decide)
theorem wr_22 : am_u (urn 22) 24 4 (some 25) = urn 23 := urn_s (by decide +kernel)
theorem fi_3_8 : am_inb (3 : Int32) 8 = true := by decide
theorem wr_23 : am_u (urn 23) 5 3 (some 24) = urn 24 := urn_s (by decide +kernel)
theorem fa_3_1 : (3 : Int32) + 1 = 4 := by decide
theorem flt_4_8 : ((4 : Int32) < 8) = True := by decide
theorem fle_4_8 : ((4 : Int32) ≤ 8) = True := by decide
theorem flt_8_4 : ((8 : Int32) < 4) = False := by decide
theorem fle_8_4 : ((8 : Int32) ≤ 4) = False := by decide
theorem fe_4_8 : ((4 : Int32) = 8) = False := by decide
theorem qr_24_1_5 : urn 24 1 5 = some 5 := urn_at (by decide +kernel)
theorem nw_26 : am_new 7 5 (usn xs 49) (urn 24) am_g0 (utn L fl 26) = (usn xs 49, urn 24, am_g0, utn L fl 27) := new_n (by decide +kernel) (by decide +kernel) (by decide +kernel) (by decide +kernel) (by decide +kernel) (by decide)
theorem tk_26 {n : Nat} (h : 26 < n) : (utn L fl n).1 26 = 7 := (utn_k h).trans (by decide +kernel)
theorem ws_49 : am_u (usn xs 49) 26 0 0 = usn xs 50 := usn_s (by decide +kernel)
theorem ws_50 : am_u (usn xs 50) 26 1 1 = usn xs 51 := usn_s (by decide +kernel)
theorem ws_51 : am_u (usn xs 51) 26 2 0 = usn xs 52 := usn_s (by decide +kernel)
theorem ws_52 : am_u (usn xs 52) 26 3 0 = usn xs 53 := usn_s (by decide +kernel)
theorem nw_27 : am_new 15 3 (usn xs 53) (urn 24) am_g0 (utn L fl 27) = (usn xs 53, urn 24, am_g0, utn L fl 28) := new_n (by decide +kernel) (by decide +kernel) (by decide +kernel) (by decide +kernel) (by decide +kernel) (by decide)
theorem wr_24 : am_u (urn 24) 26 4 (some 27) = urn 25 := urn_s (by decide +kernel)
theorem fc_4 : (4 : Int32).toNatClampNeg = 4 := by decide
theorem fi_4_8 : am_inb (4 : Int32) 8 = true := by decide
theorem wr_25 : am_u (urn 25) 5 4 (some 26) = urn 26 := urn_s (by decide +kernel)
theorem fa_4_1 : (4 : Int32) + 1 = 5 := by decide
theorem flt_5_8 : ((5 : Int32) < 8) = True := by decide
theorem fle_5_8 : ((5 : Int32) ≤ 8) = True := by decide
theorem flt_8_5 : ((8 : Int32) < 5) = False := by decide
theorem fle_8_5 : ((8 : Int32) ≤ 5) = False := by decide
theorem fe_5_8 : ((5 : Int32) = 8) = False := by decide
theorem qr_26_1_5 : urn 26 1 5 = some 5 := urn_at (by decide +kernel)
theorem nw_28 : am_new 7 5 (usn xs 53) (urn 26) am_g0 (utn L fl 28) = (usn xs 53, urn 26, am_g0, utn L fl 29) := new_n (by decide +kernel) (by decide +kernel) (by decide +kernel) (by decide +kernel) (by decide +kernel) (by decide)
theorem tk_28 {n : Nat} (h : 28 < n) : (utn L fl n).1 28 = 7 := (utn_k h).trans (by decide +kernel)
theorem ws_53 : am_u (usn xs 53) 28 0 0 = usn xs 54 := usn_s (by decide +kernel)
theorem ws_54 : am_u (usn xs 54) 28 1 1 = usn xs 55 := usn_s (by decide +kernel)
theorem ws_55 : am_u (usn xs 55) 28 2 0 = usn xs 56 := usn_s (by decide +kernel)
theorem ws_56 : am_u (usn xs 56) 28 3 0 = usn xs 57 := usn_s (by decide +kernel)
theorem nw_29 : am_new 15 3 (usn xs 57) (urn 26) am_g0 (utn L fl 29) = (usn xs 57, urn 26, am_g0, utn L fl 30) := new_n (by decide +kernel) (by decide +kernel) (by decide +kernel) (by decide +kernel) (by decide +kernel) (by decide)
theorem wr_26 : am_u (urn 26) 28 4 (some 29) = urn 27 := urn_s (by decide +kernel)
theorem fi_5_8 : am_inb (5 : Int32) 8 = true := by decide
theorem wr_27 : am_u (urn 27) 5 5 (some 28) = urn 28 := urn_s (by decide +kernel)
theorem fa_5_1 : (5 : Int32) + 1 = 6 := by decide
theorem flt_6_8 : ((6 : Int32) < 8) = True := by decide
theorem fle_6_8 : ((6 : Int32) ≤ 8) = True := by decide
theorem flt_8_6 : ((8 : Int32) < 6) = False := by decide
theorem fle_8_6 : ((8 : Int32) ≤ 6) = False := by decide
theorem fe_6_8 : ((6 : Int32) = 8) = False := by decide
theorem qr_28_1_5 : urn 28 1 5 = some 5 := urn_at (by decide +kernel)
theorem nw_30 : am_new 7 5 (usn xs 57) (urn 28) am_g0 (utn L fl 30) = (usn xs 57, urn 28, am_g0, utn L fl 31) := new_n (by decide +kernel) (by decide +kernel) (by decide +kernel) (by decide +kernel) (by decide +kernel) (by decide)
theorem tk_30 {n : Nat} (h : 30 < n) : (utn L fl n).1 30 = 7 := (utn_k h).trans (by decide +kernel)
theorem ws_57 : am_u (usn xs 57) 30 0 0 = usn xs 58 := usn_s (by decide +kernel)
theorem ws_58 : am_u (usn xs 58) 30 1 1 = usn xs 59 := usn_s (by decide +kernel)
theorem ws_59 : am_u (usn xs 59) 30 2 0 = usn xs 60 := usn_s (by decide +kernel)
theorem ws_60 : am_u (usn xs 60) 30 3 0 = usn xs 61 := usn_s (by decide +kernel)
theorem nw_31 : am_new 15 3 (usn xs 61) (urn 28) am_g0 (utn L fl 31) = (usn xs 61, urn 28, am_g0, utn L fl 32) := new_n (by decide +kernel) (by decide +kernel) (by decide +kernel) (by decide +kernel) (by decide +kernel) (by decide)
theorem wr_28 : am_u (urn 28) 30 4 (some 31) = urn 29 := urn_s (by decide +kernel)
theorem fc_6 : (6 : Int32).toNatClampNeg = 6 := by decide
theorem fi_6_8 : am_inb (6 : Int32) 8 = true := by decide
theorem wr_29 : am_u (urn 29) 5 6 (some 30) = urn 30 := urn_s (by decide +kernel)
theorem fa_6_1 : (6 : Int32) + 1 = 7 := by decide
theorem flt_7_8 : ((7 : Int32) < 8) = True := by decide
theorem fle_7_8 : ((7 : Int32) ≤ 8) = True := by decide
theorem flt_8_7 : ((8 : Int32) < 7) = False := by decide
theorem fle_8_7 : ((8 : Int32) ≤ 7) = False := by decide
theorem fe_7_8 : ((7 : Int32) = 8) = False := by decide
theorem qr_30_1_5 : urn 30 1 5 = some 5 := urn_at (by decide +kernel)
theorem nw_32 : am_new 7 5 (usn xs 61) (urn 30) am_g0 (utn L fl 32) = (usn xs 61, urn 30, am_g0, utn L fl 33) := new_n (by decide +kernel) (by decide +kernel) (by decide +kernel) (by decide +kernel) (by decide +kernel) (by decide)
theorem tk_32 {n : Nat} (h : 32 < n) : (utn L fl n).1 32 = 7 := (utn_k h).trans (by decide +kernel)
theorem ws_61 : am_u (usn xs 61) 32 0 0 = usn xs 62 := usn_s (by decide +kernel)
theorem ws_62 : am_u (usn xs 62) 32 1 1 = usn xs 63 := usn_s (by decide +kernel)
theorem ws_63 : am_u (usn xs 63) 32 2 0 = usn xs 64 := usn_s (by decide +kernel)
theorem ws_64 : am_u (usn xs 64) 32 3 0 = usn xs 65 := usn_s (by decide +kernel)
theorem nw_33 : am_new 15 3 (usn xs 65) (urn 30) am_g0 (utn L fl 33) = (usn xs 65, urn 30, am_g0, utn L fl 34) := new_n (by decide +kernel) (by decide +kernel) (by decide +kernel) (by decide +kernel) (by decide +kernel) (by decide)
theorem wr_30 : am_u (urn 30) 32 4 (some 33) = urn 31 := urn_s (by decide +kernel)
theorem fc_7 : (7 : Int32).toNatClampNeg = 7 := by decide
theorem fi_7_8 : am_inb (7 : Int32) 8 = true := by decide
theorem wr_31 : am_u (urn 31) 5 7 (some 32) = urn 32 := urn_s (by decide +kernel)
theorem fa_7_1 : (7 : Int32) + 1 = 8 := by decide
theorem flt_8_8 : ((8 : Int32) < 8) = False := by decide
theorem fle_8_8 : ((8 : Int32) ≤ 8) = True := by decide
theorem qr_32_1_7 : urn 32 1 7 = some 6 := urn_at (by decide +kernel)
theorem nw_34 : am_new 1 10 (usn xs 65) (urn 32) am_g0 (utn L fl 34) = (usn xs 65, urn 32, am_g0, utn L fl 35) := new_n (by decide +kernel) (by decide +kernel) (by decide +kernel) (by decide +kernel) (by decide +kernel) (by decide)
theorem tk_34 {n : Nat} (h : 34 < n) : (utn L fl n).1 34 = 1 := (utn_k h).trans (by decide +kernel)
theorem ws_65 : am_u (usn xs 65) 34 0 0 = usn xs 66 := usn_s (by decide +kernel)
theorem ws_66 : am_u (usn xs 66) 34 1 0 = usn xs 67 := usn_s (by decide +kernel)
theorem ws_67 : am_u (usn xs 67) 34 2 0 = usn xs 68 := usn_s (by decide +kernel)
theorem ws_68 : am_u (usn xs 68) 34 3 1 = usn xs 69 := usn_s (by decide +kernel)
theorem ws_69 : am_u (usn xs 69) 34 4 1 = usn xs 70 := usn_s (by decide +kernel)
theorem ws_70 : am_u (usn xs 70) 34 5 0 = usn xs 71 := usn_s (by decide +kernel)
theorem ws_71 : am_u (usn xs 71) 34 6 0 = usn xs 72 := usn_s (by decide +kernel)
theorem ws_72 : am_u (usn xs 72) 34 7 0 = usn xs 73 := usn_s (by decide +kernel)
theorem ws_73 : am_u (usn xs 73) 34 8 0 = usn xs 74 := usn_s (by decide +kernel)
theorem nw_35 : am_new 15 7 (usn xs 74) (urn 32) am_g0 (utn L fl 35) = (usn xs 74, urn 32, am_g0, utn L fl 36) := new_n (by decide +kernel) (by decide +kernel) (by decide +kernel) (by decide +kernel) (by decide +kernel) (by decide)
theorem flt_7_0 : ((7 : Int32) < 0) = False := by decide
theorem wr_32 : am_u (urn 32) 34 9 (some 35) = urn 33 := urn_s (by decide +kernel)
theorem tk_6 {n : Nat} (h : 6 < n) : (utn L fl n).1 6 = 18 := (utn_k h).trans (by decide +kernel)
theorem tl_6 {n : Nat} (h : 6 < n) : (utn L fl n).2.1 6 = 16 := (utn_l h).trans (by decide +kernel)
theorem fi_0_16 : am_inb (0 : Int32) 16 = true := by decide
theorem wr_33 : am_u (urn 33) 6 0 (some 34) = urn 34 := urn_s (by decide +kernel)
theorem fk_18 : am_elK 18 = 1 := by decide
theorem flt_1_16 : ((1 : Int32) < 16) = True := by decide
theorem fle_1_16 : ((1 : Int32) ≤ 16) = True := by decide
theorem flt_16_1 : ((16 : Int32) < 1) = False := by decide
theorem fle_16_1 : ((16 : Int32) ≤ 1) = False := by decide
theorem fe_1_16 : ((1 : Int32) = 16) = False := by decide
theorem qr_34_1_7 : urn 34 1 7 = some 6 := urn_at (by decide +kernel)
theorem nw_36 : am_new 1 10 (usn xs 74) (urn 34) am_g0 (utn L fl 36) = (usn xs 74, urn 34, am_g0, utn L fl 37) := new_n (by decide +kernel) (by decide +kernel) (by decide +kernel) (by decide +kernel) (by decide +kernel) (by decide)
theorem tk_36 {n : Nat} (h : 36 < n) : (utn L fl n).1 36 = 1 := (utn_k h).trans (by decide +kernel)
theorem ws_74 : am_u (usn xs 74) 36 0 0 = usn xs 75 := usn_s (by decide +kernel)
theorem ws_75 : am_u (usn xs 75) 36 1 0 = usn xs 76 := usn_s (by decide +kernel)
theorem ws_76 : am_u (usn xs 76) 36 2 0 = usn xs 77 := usn_s (by decide +kernel)
theorem ws_77 : am_u (usn xs 77) 36 3 1 = usn xs 78 := usn_s (by decide +kernel)
theorem ws_78 : am_u (usn xs 78) 36 4 1 = usn xs 79 := usn_s (by decide +kernel)
theorem ws_79 : am_u (usn xs 79) 36 5 0 = usn xs 80 := usn_s (by decide +kernel)
theorem ws_80 : am_u (usn xs 80) 36 6 0 = usn xs 81 := usn_s (by decide +kernel)
theorem ws_81 : am_u (usn xs 81) 36 7 0 = usn xs 82 := usn_s (by decide +kernel)
theorem ws_82 : am_u (usn xs 82) 36 8 0 = usn xs 83 := usn_s (by decide +kernel)
theorem nw_37 : am_new 15 7 (usn xs 83) (urn 34) am_g0 (utn L fl 37) = (usn xs 83, urn 34, am_g0, utn L fl 38) := new_n (by decide +kernel) (by decide +kernel) (by decide +kernel) (by decide +kernel) (by decide +kernel) (by decide)
theorem wr_34 : am_u (urn 34) 36 9 (some 37) = urn 35 := urn_s (by decide +kernel)
theorem fi_1_16 : am_inb (1 : Int32) 16 = true := by decide
theorem wr_35 : am_u (urn 35) 6 1 (some 36) = urn 36 := urn_s (by decide +kernel)
theorem flt_2_16 : ((2 : Int32) < 16) = True := by decide
theorem fle_2_16 : ((2 : Int32) ≤ 16) = True := by decide
theorem flt_16_2 : ((16 : Int32) < 2) = False := by decide
theorem fle_16_2 : ((16 : Int32) ≤ 2) = False := by decide
theorem fe_2_16 : ((2 : Int32) = 16) = False := by decide
theorem qr_36_1_7 : urn 36 1 7 = some 6 := urn_at (by decide +kernel)
theorem nw_38 : am_new 1 10 (usn xs 83) (urn 36) am_g0 (utn L fl 38) = (usn xs 83, urn 36, am_g0, utn L fl 39) := new_n (by decide +kernel) (by decide +kernel) (by decide +kernel) (by decide +kernel) (by decide +kernel) (by decide)
theorem tk_38 {n : Nat} (h : 38 < n) : (utn L fl n).1 38 = 1 := (utn_k h).trans (by decide +kernel)
theorem ws_83 : am_u (usn xs 83) 38 0 0 = usn xs 84 := usn_s (by decide +kernel)
theorem ws_84 : am_u (usn xs 84) 38 1 0 = usn xs 85 := usn_s (by decide +kernel)
theorem ws_85 : am_u (usn xs 85) 38 2 0 = usn xs 86 := usn_s (by decide +kernel)
theorem ws_86 : am_u (usn xs 86) 38 3 1 = usn xs 87 := usn_s (by decide +kernel)
theorem ws_87 : am_u (usn xs 87) 38 4 1 = usn xs 88 := usn_s (by decide +kernel)
theorem ws_88 : am_u (usn xs 88) 38 5 0 = usn xs 89 := usn_s (by decide +kernel)
theorem ws_89 : am_u (usn xs 89) 38 6 0 = usn xs 90 := usn_s (by decide +kernel)
theorem ws_90 : am_u (usn xs 90) 38 7 0 = usn xs 91 := usn_s (by decide +kernel)
theorem ws_91 : am_u (usn xs 91) 38 8 0 = usn xs 92 := usn_s (by decide +kernel)
theorem nw_39 : am_new 15 7 (usn xs 92) (urn 36) am_g0 (utn L fl 39) = (usn xs 92, urn 36, am_g0, utn L fl 40) := new_n (by decide +kernel) (by decide +kernel) (by decide +kernel) (by decide +kernel) (by decide +kernel) (by decide)
theorem wr_36 : am_u (urn 36) 38 9 (some 39) = urn 37 := urn_s (by decide +kernel)
theorem fi_2_16 : am_inb (2 : Int32) 16 = true := by decide
theorem wr_37 : am_u (urn 37) 6 2 (some 38) = urn 38 := urn_s (by decide +kernel)
theorem flt_3_16 : ((3 : Int32) < 16) = True := by decide
theorem fle_3_16 : ((3 : Int32) ≤ 16) = True := by decide
theorem flt_16_3 : ((16 : Int32) < 3) = False := by decide
theorem fle_16_3 : ((16 : Int32) ≤ 3) = False := by decide
theorem fe_3_16 : ((3 : Int32) = 16) = False := by decide
theorem qr_38_1_7 : urn 38 1 7 = some 6 := urn_at (by decide +kernel)
theorem nw_40 : am_new 1 10 (usn xs 92) (urn 38) am_g0 (utn L fl 40) = (usn xs 92, urn 38, am_g0, utn L fl 41) := new_n (by decide +kernel) (by decide +kernel) (by decide +kernel) (by decide +kernel) (by decide +kernel) (by decide)
theorem tk_40 {n : Nat} (h : 40 < n) : (utn L fl n).1 40 = 1 := (utn_k h).trans (by decide +kernel)
theorem ws_92 : am_u (usn xs 92) 40 0 0 = usn xs 93 := usn_s (by decide +kernel)
theorem ws_93 : am_u (usn xs 93) 40 1 0 = usn xs 94 := usn_s (by decide +kernel)
theorem ws_94 : am_u (usn xs 94) 40 2 0 = usn xs 95 := usn_s (by decide +kernel)
theorem ws_95 : am_u (usn xs 95) 40 3 1 = usn xs 96 := usn_s (by decide +kernel)
theorem ws_96 : am_u (usn xs 96) 40 4 1 = usn xs 97 := usn_s (by decide +kernel)
theorem ws_97 : am_u (usn xs 97) 40 5 0 = usn xs 98 := usn_s (by decide +kernel)
theorem ws_98 : am_u (usn xs 98) 40 6 0 = usn xs 99 := usn_s (by decide +kernel)
theorem ws_99 : am_u (usn xs 99) 40 7 0 = usn xs 100 := usn_s (by decide +kernel)
theorem ws_100 : am_u (usn xs 100) 40 8 0 = usn xs 101 := usn_s (by decide +kernel)
theorem nw_41 : am_new 15 7 (usn xs 101) (urn 38) am_g0 (utn L fl 41) = (usn xs 101, urn 38, am_g0, utn L fl 42) := new_n (by decide +kernel) (by decide +kernel) (by decide +kernel) (by decide +kernel) (by decide +kernel) (by decide)
theorem wr_38 : am_u (urn 38) 40 9 (some 41) = urn 39 := urn_s (by decide +kernel)
theorem fi_3_16 : am_inb (3 : Int32) 16 = true := by decide
theorem wr_39 : am_u (urn 39) 6 3 (some 40) = urn 40 := urn_s (by decide +kernel)
theorem flt_4_16 : ((4 : Int32) < 16) = True := by decide
theorem fle_4_16 : ((4 : Int32) ≤ 16) = True := by decide
theorem flt_16_4 : ((16 : Int32) < 4) = False := by decide
theorem fle_16_4 : ((16 : Int32) ≤ 4) = False := by decide
theorem fe_4_16 : ((4 : Int32) = 16) = False := by decide
theorem qr_40_1_7 : urn 40 1 7 = some 6 := urn_at (by decide +kernel)
theorem nw_42 : am_new 1 10 (usn xs 101) (urn 40) am_g0 (utn L fl 42) = (usn xs 101, urn 40, am_g0, utn L fl 43) := new_n (by decide +kernel) (by decide +kernel) (by decide +kernel) (by decide +kernel) (by decide +kernel) (by decide)
theorem tk_42 {n : Nat} (h : 42 < n) : (utn L fl n).1 42 = 1 := (utn_k h).trans (by decide +kernel)
theorem ws_101 : am_u (usn xs 101) 42 0 0 = usn xs 102 := usn_s (by decide +kernel)
theorem ws_102 : am_u (usn xs 102) 42 1 0 = usn xs 103 := usn_s (by decide +kernel)
theorem ws_103 : am_u (usn xs 103) 42 2 0 = usn xs 104 := usn_s (by decide +kernel)
theorem ws_104 : am_u (usn xs 104) 42 3 1 = usn xs 105 := usn_s (by decide +kernel)
theorem ws_105 : am_u (usn xs 105) 42 4 1 = usn xs 106 := usn_s (by decide +kernel)
theorem ws_106 : am_u (usn xs 106) 42 5 0 = usn xs 107 := usn_s (by decide +kernel)
theorem ws_107 : am_u (usn xs 107) 42 6 0 = usn xs 108 := usn_s (by decide +kernel)
theorem ws_108 : am_u (usn xs 108) 42 7 0 = usn xs 109 := usn_s (by decide +kernel)
theorem ws_109 : am_u (usn xs 109) 42 8 0 = usn xs 110 := usn_s (by decide +kernel)
theorem nw_43 : am_new 15 7 (usn xs 110) (urn 40) am_g0 (utn L fl 43) = (usn xs 110, urn 40, am_g0, utn L fl 44) := new_n (by decide +kernel) (by decide +kernel) (by decide +kernel) (by decide +kernel) (by decide +kernel) (by decide)
theorem wr_40 : am_u (urn 40) 42 9 (some 43) = urn 41 := urn_s (by decide +kernel)
theorem fi_4_16 : am_inb (4 : Int32) 16 = true := by decide
theorem wr_41 : am_u (urn 41) 6 4 (some 42) = urn 42 := urn_s (by decide +kernel)
theorem flt_5_16 : ((5 : Int32) < 16) = True := by decide
theorem fle_5_16 : ((5 : Int32) ≤ 16) = True := by decide
theorem flt_16_5 : ((16 : Int32) < 5) = False := by decide
theorem fle_16_5 : ((16 : Int32) ≤ 5) = False := by decide
theorem fe_5_16 : ((5 : Int32) = 16) = False := by decide
theorem qr_42_1_7 : urn 42 1 7 = some 6 := urn_at (by decide +kernel)
theorem nw_44 : am_new 1 10 (usn xs 110) (urn 42) am_g0 (utn L fl 44) = (usn xs 110, urn 42, am_g0, utn L fl 45) := new_n (by decide +kernel) (by decide +kernel) (by decide +kernel) (by decide +kernel) (by decide +kernel) (by decide)
theorem tk_44 {n : Nat} (h : 44 < n) : (utn L fl n).1 44 = 1 := (utn_k h).trans (by decide +kernel)
theorem ws_110 : am_u (usn xs 110) 44 0 0 = usn xs 111 := usn_s (by decide +kernel)
theorem ws_111 : am_u (usn xs 111) 44 1 0 = usn xs 112 := usn_s (by decide +kernel)
theorem ws_112 : am_u (usn xs 112) 44 2 0 = usn xs 113 := usn_s (by decide +kernel)
theorem ws_113 : am_u (usn xs 113) 44 3 1 = usn xs 114 := usn_s (by decide +kernel)
theorem ws_114 : am_u (usn xs 114) 44 4 1 = usn xs 115 := usn_s (by decide +kernel)
theorem ws_115 : am_u (usn xs 115) 44 5 0 = usn xs 116 := usn_s (by decide +kernel)
theorem ws_116 : am_u (usn xs 116) 44 6 0 = usn xs 117 := usn_s (by decide +kernel)
theorem ws_117 : am_u (usn xs 117) 44 7 0 = usn xs 118 := usn_s (by decide +kernel)
theorem ws_118 : am_u (usn xs 118) 44 8 0 = usn xs 119 := usn_s (by decide +kernel)
theorem nw_45 : am_new 15 7 (usn xs 119) (urn 42) am_g0 (utn L fl 45) = (usn xs 119, urn 42, am_g0, utn L fl 46) := new_n (by decide +kernel) (by decide +kernel) (by decide +kernel) (by decide +kernel) (by decide +kernel) (by decide)
theorem wr_42 : am_u (urn 42) 44 9 (some 45) = urn 43 := urn_s (by decide +kernel)
theorem fi_5_16 : am_inb (5 : Int32) 16 = true := by decide
theorem wr_43 : am_u (urn 43) 6 5 (some 44) = urn 44 := urn_s (by decide +kernel)
theorem flt_6_16 : ((6 : Int32) < 16) = True := by decide
theorem fle_6_16 : ((6 : Int32) ≤ 16) = True := by decide
theorem flt_16_6 : ((16 : Int32) < 6) = False := by decide
theorem fle_16_6 : ((16 : Int32) ≤ 6) = False := by decide
theorem fe_6_16 : ((6 : Int32) = 16) = False := by decide
theorem qr_44_1_7 : urn 44 1 7 = some 6 := urn_at (by decide +kernel)
theorem nw_46 : am_new 1 10 (usn xs 119) (urn 44) am_g0 (utn L fl 46) = (usn xs 119, urn 44, am_g0, utn L fl 47) := new_n (by decide +kernel) (by decide +kernel) (by decide +kernel) (by decide +kernel) (by decide +kernel) (by decide)
theorem tk_46 {n : Nat} (h : 46 < n) : (utn L fl n).1 46 = 1 := (utn_k h).trans (by decide +kernel)
theorem ws_119 : am_u (usn xs 119) 46 0 0 = usn xs 120 := usn_s (by decide +kernel)
theorem ws_120 : am_u (usn xs 120) 46 1 0 = usn xs 121 := usn_s (by decide +kernel)
theorem ws_121 : am_u (usn xs 121) 46 2 0 = usn xs 122 := usn_s (by decide +kernel)
theorem ws_122 : am_u (usn xs 122) 46 3 1 = usn xs 123 := usn_s (by decide +kernel)
theorem ws_123 : am_u (usn xs 123) 46 4 1 = usn xs 124 := usn_s (by decide +kernel)
theorem ws_124 : am_u (usn xs 124) 46 5 0 = usn xs 125 := usn_s (by decide +kernel)
theorem ws_125 : am_u (usn xs 125) 46 6 0 = usn xs 126 := usn_s (by decide +kernel)
theorem ws_126 : am_u (usn xs 126) 46 7 0 = usn xs 127 := usn_s (by decide +kernel)
theorem ws_127 : am_u (usn xs 127) 46 8 0 = usn xs 128 := usn_s (by decide +kernel)
theorem nw_47 : am_new 15 7 (usn xs 128) (urn 44) am_g0 (utn L fl 47) = (usn xs 128, urn 44, am_g0, utn L fl 48) := new_n (by decide +kernel) (by decide +kernel) (by decide +kernel) (by decide +kernel) (by decide +kernel) (by decide)
theorem wr_44 : am_u (urn 44) 46 9 (some 47) = urn 45 := urn_s (by decide +kernel)
theorem fi_6_16 : am_inb (6 : Int32) 16 = true := by decide
theorem wr_45 : am_u (urn 45) 6 6 (some 46) = urn 46 := urn_s (by decide +kernel)
theorem flt_7_16 : ((7 : Int32) < 16) = True := by decide
theorem fle_7_16 : ((7 : Int32) ≤ 16) = True := by decide
theorem flt_16_7 : ((16 : Int32) < 7) = False := by decide
theorem fle_16_7 : ((16 : Int32) ≤ 7) = False := by decide
theorem fe_7_16 : ((7 : Int32) = 16) = False := by decide
theorem qr_46_1_7 : urn 46 1 7 = some 6 := urn_at (by decide +kernel)
theorem nw_48 : am_new 1 10 (usn xs 128) (urn 46) am_g0 (utn L fl 48) = (usn xs 128, urn 46, am_g0, utn L fl 49) := new_n (by decide +kernel) (by decide +kernel) (by decide +kernel) (by decide +kernel) (by decide +kernel) (by decide)
theorem tk_48 {n : Nat} (h : 48 < n) : (utn L fl n).1 48 = 1 := (utn_k h).trans (by decide +kernel)
theorem ws_128 : am_u (usn xs 128) 48 0 0 = usn xs 129 := usn_s (by decide +kernel)
theorem ws_129 : am_u (usn xs 129) 48 1 0 = usn xs 130 := usn_s (by decide +kernel)
theorem ws_130 : am_u (usn xs 130) 48 2 0 = usn xs 131 := usn_s (by decide +kernel)
theorem ws_131 : am_u (usn xs 131) 48 3 1 = usn xs 132 := usn_s (by decide +kernel)
theorem ws_132 : am_u (usn xs 132) 48 4 1 = usn xs 133 := usn_s (by decide +kernel)
theorem ws_133 : am_u (usn xs 133) 48 5 0 = usn xs 134 := usn_s (by decide +kernel)
theorem ws_134 : am_u (usn xs 134) 48 6 0 = usn xs 135 := usn_s (by decide +kernel)
theorem ws_135 : am_u (usn xs 135) 48 7 0 = usn xs 136 := usn_s (by decide +kernel)
theorem ws_136 : am_u (usn xs 136) 48 8 0 = usn xs 137 := usn_s (by decide +kernel)
theorem nw_49 : am_new 15 7 (usn xs 137) (urn 46) am_g0 (utn L fl 49) = (usn xs 137, urn 46, am_g0, utn L fl 50) := new_n (by decide +kernel) (by decide +kernel) (by decide +kernel) (by decide +kernel) (by decide +kernel) (by decide)
theorem wr_46 : am_u (urn 46) 48 9 (some 49) = urn 47 := urn_s (by decide +kernel)
theorem fi_7_16 : am_inb (7 : Int32) 16 = true := by decide
theorem wr_47 : am_u (urn 47) 6 7 (some 48) = urn 48 := urn_s (by decide +kernel)
theorem flt_8_16 : ((8 : Int32) < 16) = True := by decide
theorem fle_8_16 : ((8 : Int32) ≤ 16) = True := by decide
theorem flt_16_8 : ((16 : Int32) < 8) = False := by decide
theorem fle_16_8 : ((16 : Int32) ≤ 8) = False := by decide
theorem fe_8_16 : ((8 : Int32) = 16) = False := by decide
theorem qr_48_1_7 : urn 48 1 7 = some 6 := urn_at (by decide +kernel)
theorem nw_50 : am_new 1 10 (usn xs 137) (urn 48) am_g0 (utn L fl 50) = (usn xs 137, urn 48, am_g0, utn L fl 51) := new_n (by decide +kernel) (by decide +kernel) (by decide +kernel) (by decide +kernel) (by decide +kernel) (by decide)
theorem tk_50 {n : Nat} (h : 50 < n) : (utn L fl n).1 50 = 1 := (utn_k h).trans (by decide +kernel)
theorem ws_137 : am_u (usn xs 137) 50 0 0 = usn xs 138 := usn_s (by decide +kernel)
theorem ws_138 : am_u (usn xs 138) 50 1 0 = usn xs 139 := usn_s (by decide +kernel)
theorem ws_139 : am_u (usn xs 139) 50 2 0 = usn xs 140 := usn_s (by decide +kernel)
theorem ws_140 : am_u (usn xs 140) 50 3 1 = usn xs 141 := usn_s (by decide +kernel)
theorem ws_141 : am_u (usn xs 141) 50 4 1 = usn xs 142 := usn_s (by decide +kernel)
theorem ws_142 : am_u (usn xs 142) 50 5 0 = usn xs 143 := usn_s (by decide +kernel)
theorem ws_143 : am_u (usn xs 143) 50 6 0 = usn xs 144 := usn_s (by decide +kernel)
theorem ws_144 : am_u (usn xs 144) 50 7 0 = usn xs 145 := usn_s (by decide +kernel)
theorem ws_145 : am_u (usn xs 145) 50 8 0 = usn xs 146 := usn_s (by decide +kernel)
theorem nw_51 : am_new 15 7 (usn xs 146) (urn 48) am_g0 (utn L fl 51) = (usn xs 146, urn 48, am_g0, utn L fl 52) := new_n (by decide +kernel) (by decide +kernel) (by decide +kernel) (by decide +kernel) (by decide +kernel) (by decide)
theorem wr_48 : am_u (urn 48) 50 9 (some 51) = urn 49 := urn_s (by decide +kernel)
theorem fi_8_16 : am_inb (8 : Int32) 16 = true := by decide
theorem wr_49 : am_u (urn 49) 6 8 (some 50) = urn 50 := urn_s (by decide +kernel)
theorem fa_8_1 : (8 : Int32) + 1 = 9 := by decide
theorem flt_9_16 : ((9 : Int32) < 16) = True := by decide
theorem fle_9_16 : ((9 : Int32) ≤ 16) = True := by decide
theorem flt_16_9 : ((16 : Int32) < 9) = False := by decide
theorem fle_16_9 : ((16 : Int32) ≤ 9) = False := by decide
theorem fe_9_16 : ((9 : Int32) = 16) = False := by decide
theorem qr_50_1_7 : urn 50 1 7 = some 6 := urn_at (by decide +kernel)
theorem nw_52 : am_new 1 10 (usn xs 146) (urn 50) am_g0 (utn L fl 52) = (usn xs 146, urn 50, am_g0, utn L fl 53) := new_n (by decide +kernel) (by decide +kernel) (by decide +kernel) (by decide +kernel) (by decide +kernel) (by decide)
theorem tk_52 {n : Nat} (h : 52 < n) : (utn L fl n).1 52 = 1 := (utn_k h).trans (by decide +kernel)
theorem ws_146 : am_u (usn xs 146) 52 0 0 = usn xs 147 := usn_s (by decide +kernel)
theorem ws_147 : am_u (usn xs 147) 52 1 0 = usn xs 148 := usn_s (by decide +kernel)
theorem ws_148 : am_u (usn xs 148) 52 2 0 = usn xs 149 := usn_s (by decide +kernel)
theorem ws_149 : am_u (usn xs 149) 52 3 1 = usn xs 150 := usn_s (by decide +kernel)
theorem ws_150 : am_u (usn xs 150) 52 4 1 = usn xs 151 := usn_s (by decide +kernel)
theorem ws_151 : am_u (usn xs 151) 52 5 0 = usn xs 152 := usn_s (by decide +kernel)
theorem ws_152 : am_u (usn xs 152) 52 6 0 = usn xs 153 := usn_s (by decide +kernel)
theorem ws_153 : am_u (usn xs 153) 52 7 0 = usn xs 154 := usn_s (by decide +kernel)
theorem ws_154 : am_u (usn xs 154) 52 8 0 = usn xs 155 := usn_s (by decide +kernel)
theorem nw_53 : am_new 15 7 (usn xs 155) (urn 50) am_g0 (utn L fl 53) = (usn xs 155, urn 50, am_g0, utn L fl 54) := new_n (by decide +kernel) (by decide +kernel) (by decide +kernel) (by decide +kernel) (by decide +kernel) (by decide)
theorem wr_50 : am_u (urn 50) 52 9 (some 53) = urn 51 := urn_s (by decide +kernel)
theorem fc_9 : (9 : Int32).toNatClampNeg = 9 := by decide
theorem fi_9_16 : am_inb (9 : Int32) 16 = true := by decide
theorem wr_51 : am_u (urn 51) 6 9 (some 52) = urn 52 := urn_s (by decide +kernel)
theorem fa_9_1 : (9 : Int32) + 1 = 10 := by decide
theorem flt_10_16 : ((10 : Int32) < 16) = True := by decide
theorem fle_10_16 : ((10 : Int32) ≤ 16) = True := by decide
theorem flt_16_10 : ((16 : Int32) < 10) = False := by decide
theorem fle_16_10 : ((16 : Int32) ≤ 10) = False := by decide
theorem fe_10_16 : ((10 : Int32) = 16) = False := by decide
theorem qr_52_1_7 : urn 52 1 7 = some 6 := urn_at (by decide +kernel)
theorem nw_54 : am_new 1 10 (usn xs 155) (urn 52) am_g0 (utn L fl 54) = (usn xs 155, urn 52, am_g0, utn L fl 55) := new_n (by decide +kernel) (by decide +kernel) (by decide +kernel) (by decide +kernel) (by decide +kernel) (by decide)
theorem tk_54 {n : Nat} (h : 54 < n) : (utn L fl n).1 54 = 1 := (utn_k h).trans (by decide +kernel)
theorem ws_155 : am_u (usn xs 155) 54 0 0 = usn xs 156 := usn_s (by decide +kernel)
theorem ws_156 : am_u (usn xs 156) 54 1 0 = usn xs 157 := usn_s (by decide +kernel)
theorem ws_157 : am_u (usn xs 157) 54 2 0 = usn xs 158 := usn_s (by decide +kernel)
theorem ws_158 : am_u (usn xs 158) 54 3 1 = usn xs 159 := usn_s (by decide +kernel)
theorem ws_159 : am_u (usn xs 159) 54 4 1 = usn xs 160 := usn_s (by decide +kernel)
theorem ws_160 : am_u (usn xs 160) 54 5 0 = usn xs 161 := usn_s (by decide +kernel)
theorem ws_161 : am_u (usn xs 161) 54 6 0 = usn xs 162 := usn_s (by decide +kernel)
theorem ws_162 : am_u (usn xs 162) 54 7 0 = usn xs 163 := usn_s (by decide +kernel)
theorem ws_163 : am_u (usn xs 163) 54 8 0 = usn xs 164 := usn_s (by decide +kernel)
theorem nw_55 : am_new 15 7 (usn xs 164) (urn 52) am_g0 (utn L fl 55) = (usn xs 164, urn 52, am_g0, utn L fl 56) := new_n (by decide +kernel) (by decide +kernel) (by decide +kernel) (by decide +kernel) (by decide +kernel) (by decide)
theorem wr_52 : am_u (urn 52) 54 9 (some 55) = urn 53 := urn_s (by decide +kernel)
theorem fc_10 : (10 : Int32).toNatClampNeg = 10 := by decide
theorem fi_10_16 : am_inb (10 : Int32) 16 = true := by decide
theorem wr_53 : am_u (urn 53) 6 10 (some 54) = urn 54 := urn_s (by decide +kernel)
theorem fa_10_1 : (10 : Int32) + 1 = 11 := by decide
theorem flt_11_16 : ((11 : Int32) < 16) = True := by decide
theorem fle_11_16 : ((11 : Int32) ≤ 16) = True := by decide
theorem flt_16_11 : ((16 : Int32) < 11) = False := by decide
theorem fle_16_11 : ((16 : Int32) ≤ 11) = False := by decide
theorem fe_11_16 : ((11 : Int32) = 16) = False := by decide
theorem qr_54_1_7 : urn 54 1 7 = some 6 := urn_at (by decide +kernel)
theorem nw_56 : am_new 1 10 (usn xs 164) (urn 54) am_g0 (utn L fl 56) = (usn xs 164, urn 54, am_g0, utn L fl 57) := new_n (by decide +kernel) (by decide +kernel) (by decide +kernel) (by decide +kernel) (by decide +kernel) (by decide)
theorem tk_56 {n : Nat} (h : 56 < n) : (utn L fl n).1 56 = 1 := (utn_k h).trans (by decide +kernel)
theorem ws_164 : am_u (usn xs 164) 56 0 0 = usn xs 165 := usn_s (by decide +kernel)
theorem ws_165 : am_u (usn xs 165) 56 1 0 = usn xs 166 := usn_s (by decide +kernel)
theorem ws_166 : am_u (usn xs 166) 56 2 0 = usn xs 167 := usn_s (by decide +kernel)
theorem ws_167 : am_u (usn xs 167) 56 3 1 = usn xs 168 := usn_s (by decide +kernel)
theorem ws_168 : am_u (usn xs 168) 56 4 1 = usn xs 169 := usn_s (by decide +kernel)
theorem ws_169 : am_u (usn xs 169) 56 5 0 = usn xs 170 := usn_s (by decide +kernel)
theorem ws_170 : am_u (usn xs 170) 56 6 0 = usn xs 171 := usn_s (by decide +kernel)
theorem ws_171 : am_u (usn xs 171) 56 7 0 = usn xs 172 := usn_s (by decide +kernel)
theorem ws_172 : am_u (usn xs 172) 56 8 0 = usn xs 173 := usn_s (by decide +kernel)
theorem nw_57 : am_new 15 7 (usn xs 173) (urn 54) am_g0 (utn L fl 57) = (usn xs 173, urn 54, am_g0, utn L fl 58) := new_n (by decide +kernel) (by decide +kernel) (by decide +kernel) (by decide +kernel) (by decide +kernel) (by decide)
theorem wr_54 : am_u (urn 54) 56 9 (some 57) = urn 55 := urn_s (by decide +kernel)
theorem fc_11 : (11 : Int32).toNatClampNeg = 11 := by decide
theorem fi_11_16 : am_inb (11 : Int32) 16 = true := by decide
theorem wr_55 : am_u (urn 55) 6 11 (some 56) = urn 56 := urn_s (by decide +kernel)
theorem fa_11_1 : (11 : Int32) + 1 = 12 := by decide
theorem flt_12_16 : ((12 : Int32) < 16) = True := by decide
theorem fle_12_16 : ((12 : Int32) ≤ 16) = True := by decide
theorem flt_16_12 : ((16 : Int32) < 12) = False := by decide
theorem fle_16_12 : ((16 : Int32) ≤ 12) = False := by decide
theorem fe_12_16 : ((12 : Int32) = 16) = False := by decide
theorem qr_56_1_7 : urn 56 1 7 = some 6 := urn_at (by decide +kernel)
theorem nw_58 : am_new 1 10 (usn xs 173) (urn 56) am_g0 (utn L fl 58) = (usn xs 173, urn 56, am_g0, utn L fl 59) := new_n (by decide +kernel) (by decide +kernel) (by decide +kernel) (by decide +kernel) (by decide +kernel) (by decide)
theorem tk_58 {n : Nat} (h : 58 < n) : (utn L fl n).1 58 = 1 := (utn_k h).trans (by decide +kernel)
theorem ws_173 : am_u (usn xs 173) 58 0 0 = usn xs 174 := usn_s (by decide +kernel)
theorem ws_174 : am_u (usn xs 174) 58 1 0 = usn xs 175 := usn_s (by decide +kernel)
theorem ws_175 : am_u (usn xs 175) 58 2 0 = usn xs 176 := usn_s (by decide +kernel)
theorem ws_176 : am_u (usn xs 176) 58 3 1 = usn xs 177 := usn_s (by decide +kernel)
theorem ws_177 : am_u (usn xs 177) 58 4 1 = usn xs 178 := usn_s (by decide +kernel)
theorem ws_178 : am_u (usn xs 178) 58 5 0 = usn xs 179 := usn_s (by decide +kernel)
theorem ws_179 : am_u (usn xs 179) 58 6 0 = usn xs 180 := usn_s (by decide +kernel)
theorem ws_180 : am_u (usn xs 180) 58 7 0 = usn xs 181 := usn_s (by decide +kernel)
theorem ws_181 : am_u (usn xs 181) 58 8 0 = usn xs 182 := usn_s (by decide +kernel)
theorem nw_59 : am_new 15 7 (usn xs 182) (urn 56) am_g0 (utn L fl 59) = (usn xs 182, urn 56, am_g0, utn L fl 60) := new_n (by decide +kernel) (by decide +kernel) (by decide +kernel) (by decide +kernel) (by decide +kernel) (by decide)
theorem wr_56 : am_u (urn 56) 58 9 (some 59) = urn 57 := urn_s (by decide +kernel)
theorem fi_12_16 : am_inb (12 : Int32) 16 = true := by decide
theorem wr_57 : am_u (urn 57) 6 12 (some 58) = urn 58 := urn_s (by decide +kernel)
theorem fa_12_1 : (12 : Int32) + 1 = 13 := by decide
theorem flt_13_16 : ((13 : Int32) < 16) = True := by decide
theorem fle_13_16 : ((13 : Int32) ≤ 16) = True := by decide
theorem flt_16_13 : ((16 : Int32) < 13) = False := by decide
theorem fle_16_13 : ((16 : Int32) ≤ 13) = False := by decide
theorem fe_13_16 : ((13 : Int32) = 16) = False := by decide
theorem qr_58_1_7 : urn 58 1 7 = some 6 := urn_at (by decide +kernel)
theorem nw_60 : am_new 1 10 (usn xs 182) (urn 58) am_g0 (utn L fl 60) = (usn xs 182, urn 58, am_g0, utn L fl 61) := new_n (by decide +kernel) (by decide +kernel) (by decide +kernel) (by decide +kernel) (by decide +kernel) (by decide)
theorem tk_60 {n : Nat} (h : 60 < n) : (utn L fl n).1 60 = 1 := (utn_k h).trans (by decide +kernel)
theorem ws_182 : am_u (usn xs 182) 60 0 0 = usn xs 183 := usn_s (by decide +kernel)
theorem ws_183 : am_u (usn xs 183) 60 1 0 = usn xs 184 := usn_s (by decide +kernel)
theorem ws_184 : am_u (usn xs 184) 60 2 0 = usn xs 185 := usn_s (by decide +kernel)
theorem ws_185 : am_u (usn xs 185) 60 3 1 = usn xs 186 := usn_s (by decide +kernel)
theorem ws_186 : am_u (usn xs 186) 60 4 1 = usn xs 187 := usn_s (by decide +kernel)
theorem ws_187 : am_u (usn xs 187) 60 5 0 = usn xs 188 := usn_s (by decide +kernel)
theorem ws_188 : am_u (usn xs 188) 60 6 0 = usn xs 189 := usn_s (by decide +kernel)
theorem ws_189 : am_u (usn xs 189) 60 7 0 = usn xs 190 := usn_s (by decide +kernel)
theorem ws_190 : am_u (usn xs 190) 60 8 0 = usn xs 191 := usn_s (by decide +kernel)
theorem nw_61 : am_new 15 7 (usn xs 191) (urn 58) am_g0 (utn L fl 61) = (usn xs 191, urn 58, am_g0, utn L fl 62) := new_n (by decide +kernel) (by decide +kernel) (by decide +kernel) (by decide +kernel) (by decide +kernel) (by decide)
theorem wr_58 : am_u (urn 58) 60 9 (some 61) = urn 59 := urn_s (by decide +kernel)
theorem fc_13 : (13 : Int32).toNatClampNeg = 13 := by decide
theorem fi_13_16 : am_inb (13 : Int32) 16 = true := by decide
theorem wr_59 : am_u (urn 59) 6 13 (some 60) = urn 60 := urn_s (by decide +kernel)
theorem fa_13_1 : (13 : Int32) + 1 = 14 := by decide
theorem flt_14_16 : ((14 : Int32) < 16) = True := by decide
theorem fle_14_16 : ((14 : Int32) ≤ 16) = True := by decide
theorem flt_16_14 : ((16 : Int32) < 14) = False := by decide
theorem fle_16_14 : ((16 : Int32) ≤ 14) = False := by decide
theorem fe_14_16 : ((14 : Int32) = 16) = False := by decide
theorem qr_60_1_7 : urn 60 1 7 = some 6 := urn_at (by decide +kernel)
theorem nw_62 : am_new 1 10 (usn xs 191) (urn 60) am_g0 (utn L fl 62) = (usn xs 191, urn 60, am_g0, utn L fl 63) := new_n (by decide +kernel) (by decide +kernel) (by decide +kernel) (by decide +kernel) (by decide +kernel) (by decide)
theorem tk_62 {n : Nat} (h : 62 < n) : (utn L fl n).1 62 = 1 := (utn_k h).trans (by decide +kernel)
theorem ws_191 : am_u (usn xs 191) 62 0 0 = usn xs 192 := usn_s (by decide +kernel)
theorem ws_192 : am_u (usn xs 192) 62 1 0 = usn xs 193 := usn_s (by decide +kernel)
theorem ws_193 : am_u (usn xs 193) 62 2 0 = usn xs 194 := usn_s (by decide +kernel)
theorem ws_194 : am_u (usn xs 194) 62 3 1 = usn xs 195 := usn_s (by decide +kernel)
theorem ws_195 : am_u (usn xs 195) 62 4 1 = usn xs 196 := usn_s (by decide +kernel)
theorem ws_196 : am_u (usn xs 196) 62 5 0 = usn xs 197 := usn_s (by decide +kernel)
theorem ws_197 : am_u (usn xs 197) 62 6 0 = usn xs 198 := usn_s (by decide +kernel)
theorem ws_198 : am_u (usn xs 198) 62 7 0 = usn xs 199 := usn_s (by decide +kernel)
theorem ws_199 : am_u (usn xs 199) 62 8 0 = usn xs 200 := usn_s (by decide +kernel)
theorem nw_63 : am_new 15 7 (usn xs 200) (urn 60) am_g0 (utn L fl 63) = (usn xs 200, urn 60, am_g0, utn L fl 64) := new_n (by decide +kernel) (by decide +kernel) (by decide +kernel) (by decide +kernel) (by decide +kernel) (by decide)
theorem wr_60 : am_u (urn 60) 62 9 (some 63) = urn 61 := urn_s (by decide +kernel)
theorem fc_14 : (14 : Int32).toNatClampNeg = 14 := by decide
theorem fi_14_16 : am_inb (14 : Int32) 16 = true := by decide
theorem wr_61 : am_u (urn 61) 6 14 (some 62) = urn 62 := urn_s (by decide +kernel)
theorem fa_14_1 : (14 : Int32) + 1 = 15 := by decide
theorem flt_15_16 : ((15 : Int32) < 16) = True := by decide
theorem fle_15_16 : ((15 : Int32) ≤ 16) = True := by decide
theorem flt_16_15 : ((16 : Int32) < 15) = False := by decide
theorem fle_16_15 : ((16 : Int32) ≤ 15) = False := by decide
theorem fe_15_16 : ((15 : Int32) = 16) = False := by decide
theorem qr_62_1_7 : urn 62 1 7 = some 6 := urn_at (by decide +kernel)
theorem nw_64 : am_new 1 10 (usn xs 200) (urn 62) am_g0 (utn L fl 64) = (usn xs 200, urn 62, am_g0, utn L fl 65) := new_n (by decide +kernel) (by decide +kernel) (by decide +kernel) (by decide +kernel) (by decide +kernel) (by decide)
theorem tk_64 {n : Nat} (h : 64 < n) : (utn L fl n).1 64 = 1 := (utn_k h).trans (by decide +kernel)
theorem ws_200 : am_u (usn xs 200) 64 0 0 = usn xs 201 := usn_s (by decide +kernel)
theorem ws_201 : am_u (usn xs 201) 64 1 0 = usn xs 202 := usn_s (by decide +kernel)
theorem ws_202 : am_u (usn xs 202) 64 2 0 = usn xs 203 := usn_s (by decide +kernel)
theorem ws_203 : am_u (usn xs 203) 64 3 1 = usn xs 204 := usn_s (by decide +kernel)
theorem ws_204 : am_u (usn xs 204) 64 4 1 = usn xs 205 := usn_s (by decide +kernel)
theorem ws_205 : am_u (usn xs 205) 64 5 0 = usn xs 206 := usn_s (by decide +kernel)
theorem ws_206 : am_u (usn xs 206) 64 6 0 = usn xs 207 := usn_s (by decide +kernel)
theorem ws_207 : am_u (usn xs 207) 64 7 0 = usn xs 208 := usn_s (by decide +kernel)
theorem ws_208 : am_u (usn xs 208) 64 8 0 = usn xs 209 := usn_s (by decide +kernel)
theorem nw_65 : am_new 15 7 (usn xs 209) (urn 62) am_g0 (utn L fl 65) = (usn xs 209, urn 62, am_g0, utn L fl 66) := new_n (by decide +kernel) (by decide +kernel) (by decide +kernel) (by decide +kernel) (by decide +kernel) (by decide)
theorem wr_62 : am_u (urn 62) 64 9 (some 65) = urn 63 := urn_s (by decide +kernel)
theorem fc_15 : (15 : Int32).toNatClampNeg = 15 := by decide
theorem fi_15_16 : am_inb (15 : Int32) 16 = true := by decide
theorem wr_63 : am_u (urn 63) 6 15 (some 64) = urn 64 := urn_s (by decide +kernel)
theorem fa_15_1 : (15 : Int32) + 1 = 16 := by decide
theorem flt_16_16 : ((16 : Int32) < 16) = False := by decide
theorem fle_16_16 : ((16 : Int32) ≤ 16) = True := by decide
theorem qr_64_1_10 : urn 64 1 10 = some 9 := urn_at (by decide +kernel)
theorem qr_64_1_9 : urn 64 1 9 = some 7 := urn_at (by decide +kernel)
theorem tk_9 {n : Nat} (h : 9 < n) : (utn L fl n).1 9 = 21 := (utn_k h).trans (by decide +kernel)
theorem tl_9 {n : Nat} (h : 9 < n) : (utn L fl n).2.1 9 = 8 := (utn_l h).trans (by decide +kernel)
theorem wr_64 : am_u (urn 64) 9 0 (some 7) = urn 65 := urn_s (by decide +kernel)
theorem fk_21 : am_elK 21 = 9 := by decide
theorem qr_65_1_10 : urn 65 1 10 = some 9 := urn_at (by decide +kernel)
theorem qr_65_1_9 : urn 65 1 9 = some 7 := urn_at (by decide +kernel)
theorem wr_65 : am_u (urn 65) 9 1 (some 7) = urn 66 := urn_s (by decide +kernel)
theorem qr_66_1_10 : urn 66 1 10 = some 9 := urn_at (by decide +kernel)
theorem qr_66_1_9 : urn 66 1 9 = some 7 := urn_at (by decide +kernel)
theorem wr_66 : am_u (urn 66) 9 2 (some 7) = urn 67 := urn_s (by decide +kernel)
theorem qr_67_1_10 : urn 67 1 10 = some 9 := urn_at (by decide +kernel)
theorem qr_67_1_9 : urn 67 1 9 = some 7 := urn_at (by decide +kernel)
theorem wr_67 : am_u (urn 67) 9 3 (some 7) = urn 68 := urn_s (by decide +kernel)
theorem qr_68_1_10 : urn 68 1 10 = some 9 := urn_at (by decide +kernel)
theorem qr_68_1_9 : urn 68 1 9 = some 7 := urn_at (by decide +kernel)
theorem wr_68 : am_u (urn 68) 9 4 (some 7) = urn 69 := urn_s (by decide +kernel)
theorem qr_69_1_10 : urn 69 1 10 = some 9 := urn_at (by decide +kernel)
theorem qr_69_1_9 : urn 69 1 9 = some 7 := urn_at (by decide +kernel)
theorem wr_69 : am_u (urn 69) 9 5 (some 7) = urn 70 := urn_s (by decide +kernel)
theorem qr_70_1_10 : urn 70 1 10 = some 9 := urn_at (by decide +kernel)
theorem qr_70_1_9 : urn 70 1 9 = some 7 := urn_at (by decide +kernel)
theorem wr_70 : am_u (urn 70) 9 6 (some 7) = urn 71 := urn_s (by decide +kernel)
theorem qr_71_1_10 : urn 71 1 10 = some 9 := urn_at (by decide +kernel)
theorem qr_71_1_9 : urn 71 1 9 = some 7 := urn_at (by decide +kernel)
theorem wr_71 : am_u (urn 71) 9 7 (some 7) = urn 72 := urn_s (by decide +kernel)
theorem tk_0 {n : Nat} (h : 0 < n) : (utn L fl n).1 0 = 11 := (utn_k h).trans (by decide +kernel)
theorem wr_72 : am_u (urn 72) 0 0 (some 1) = urn 73 := urn_s (by decide +kernel)
theorem nw_66 : am_new 3 16 (usn xs 209) (urn 73) am_g0 (utn L fl 66) = (usn xs 209, urn 73, am_g0, utn L fl 67) := new_n (by decide +kernel) (by decide +kernel) (by decide +kernel) (by decide +kernel) (by decide +kernel) (by decide)
theorem tk_66 {n : Nat} (h : 66 < n) : (utn L fl n).1 66 = 3 := (utn_k h).trans (by decide +kernel)
theorem ws_209 : am_u (usn xs 209) 66 0 0 = usn xs 210 := usn_s (by decide +kernel)
theorem ws_210 : am_u (usn xs 210) 66 1 0 = usn xs 211 := usn_s (by decide +kernel)
theorem nw_67 : am_new 15 3 (usn xs 211) (urn 73) am_g0 (utn L fl 67) = (usn xs 211, urn 73, am_g0, utn L fl 68) := new_n (by decide +kernel) (by decide +kernel) (by decide +kernel) (by decide +kernel) (by decide +kernel) (by decide)
theorem wr_73 : am_u (urn 73) 66 2 (some 67) = urn 74 := urn_s (by decide +kernel)
theorem nw_68 : am_new 15 12 (usn xs 211) (urn 74) am_g0 (utn L fl 68) = (usn xs 211, urn 74, am_g0, utn L fl 69) := new_n (by decide +kernel) (by decide +kernel) (by decide +kernel) (by decide +kernel) (by decide +kernel) (by decide)
theorem wr_74 : am_u (urn 74) 66 3 (some 68) = urn 75 := urn_s (by decide +kernel)
theorem nw_69 : am_new 15 5 (usn xs 211) (urn 75) am_g0 (utn L fl 69) = (usn xs 211, urn 75, am_g0, utn L fl 70) := new_n (by decide +kernel) (by decide +kernel) (by decide +kernel) (by decide +kernel) (by decide +kernel) (by decide)
theorem wr_75 : am_u (urn 75) 66 4 (some 69) = urn 76 := urn_s (by decide +kernel)
theorem nw_70 : am_new 20 8 (usn xs 211) (urn 76) am_g0 (utn L fl 70) = (usn xs 211, urn 76, am_g0, utn L fl 71) := new_n (by decide +kernel) (by decide +kernel) (by decide +kernel) (by decide +kernel) (by decide +kernel) (by decide)
theorem wr_76 : am_u (urn 76) 66 5 (some 70) = urn 77 := urn_s (by decide +kernel)
theorem ws_211 : am_u (usn xs 211) 66 6 0 = usn xs 212 := usn_s (by decide +kernel)
theorem nw_71 : am_new 18 16 (usn xs 212) (urn 77) am_g0 (utn L fl 71) = (usn xs 212, urn 77, am_g0, utn L fl 72) := new_n (by decide +kernel) (by decide +kernel) (by decide +kernel) (by decide +kernel) (by decide +kernel) (by decide)
theorem wr_77 : am_u (urn 77) 66 7 (some 71) = urn 78 := urn_s (by decide +kernel)
theorem ws_212 : am_u (usn xs 212) 66 8 0 = usn xs 213 := usn_s (by decide +kernel)
theorem nw_72 : am_new 9 2 (usn xs 213) (urn 78) am_g0 (utn L fl 72) = (usn xs 213, urn 78, am_g0, utn L fl 73) := new_n (by decide +kernel) (by decide +kernel) (by decide +kernel) (by decide +kernel) (by decide +kernel) (by decide)
theorem nw_73 : am_new 19 0 (usn xs 213) (urn 78) am_g0 (utn L fl 73) = (usn xs 213, urn 78, am_g0, utn L fl 74) := new_n (by decide +kernel) (by decide +kernel) (by decide +kernel) (by decide +kernel) (by decide +kernel) (by decide)
theorem tk_72 {n : Nat} (h : 72 < n) : (utn L fl n).1 72 = 9 := (utn_k h).trans (by decide +kernel)
theorem ws_213 : am_u (usn xs 213) 72 0 0 = usn xs 214 := usn_s (by decide +kernel)
theorem wr_78 : am_u (urn 78) 72 1 (some 73) = urn 79 := urn_s (by decide +kernel)
theorem wr_79 : am_u (urn 79) 66 9 (some 72) = urn 80 := urn_s (by decide +kernel)
theorem nw_74 : am_new 21 8 (usn xs 214) (urn 80) am_g0 (utn L fl 74) = (usn xs 214, urn 80, am_g0, utn L fl 75) := new_n (by decide +kernel) (by decide +kernel) (by decide +kernel) (by decide +kernel) (by decide +kernel) (by decide)
theorem wr_80 : am_u (urn 80) 66 10 (some 74) = urn 81 := urn_s (by decide +kernel)
theorem ws_214 : am_u (usn xs 214) 66 11 0 = usn xs 215 := usn_s (by decide +kernel)
theorem nw_75 : am_new 4 4 (usn xs 215) (urn 81) am_g0 (utn L fl 75) = (usn xs 215, urn 81, am_g0, utn L fl 76) := new_n (by decide +kernel) (by decide +kernel) (by decide +kernel) (by decide +kernel) (by decide +kernel) (by decide)
theorem tk_75 {n : Nat} (h : 75 < n) : (utn L fl n).1 75 = 4 := (utn_k h).trans (by decide +kernel)
theorem ws_215 : am_u (usn xs 215) 75 3 0 = usn xs 216 := usn_s (by decide +kernel)
theorem ws_216 : am_u (usn xs 216) 75 0 6 = usn xs 217 := usn_s (by decide +kernel)
theorem ws_217 : am_u (usn xs 217) 75 1 3 = usn xs 218 := usn_s (by decide +kernel)
theorem qs_218_75_0 : usn xs 218 75 0 = 6 := (usn_at (by decide)).trans (by decide +kernel)
theorem qs_218_75_1 : usn xs 218 75 1 = 3 := (usn_at (by decide)).trans (by decide +kernel)
theorem nw_76 : am_new 15 18 (usn xs 218) (urn 81) am_g0 (utn L fl 76) = (usn xs 218, urn 81, am_g0, utn L fl 77) := new_n (by decide +kernel) (by decide +kernel) (by decide +kernel) (by decide +kernel) (by decide +kernel) (by decide)
theorem wr_81 : am_u (urn 81) 75 2 (some 76) = urn 82 := urn_s (by decide +kernel)
theorem wr_82 : am_u (urn 82) 66 12 (some 75) = urn 83 := urn_s (by decide +kernel)
theorem nw_77 : am_new 4 4 (usn xs 218) (urn 83) am_g0 (utn L fl 77) = (usn xs 218, urn 83, am_g0, utn L fl 78) := new_n (by decide +kernel) (by decide +kernel) (by decide +kernel) (by decide +kernel) (by decide +kernel) (by decide)
theorem tk_77 {n : Nat} (h : 77 < n) : (utn L fl n).1 77 = 4 := (utn_k h).trans (by decide +kernel)
theorem ws_218 : am_u (usn xs 218) 77 3 0 = usn xs 219 := usn_s (by decide +kernel)
theorem ws_219 : am_u (usn xs 219) 77 0 20 = usn xs 220 := usn_s (by decide +kernel)
theorem ws_220 : am_u (usn xs 220) 77 1 5 = usn xs 221 := usn_s (by decide +kernel)
theorem qs_221_77_0 : usn xs 221 77 0 = 20 := (usn_at (by decide)).trans (by decide +kernel)
theorem qs_221_77_1 : usn xs 221 77 1 = 5 := (usn_at (by decide)).trans (by decide +kernel)
theorem nw_78 : am_new 15 100 (usn xs 221) (urn 83) am_g0 (utn L fl 78) = (usn xs 221, urn 83, am_g0, utn L fl 79) := new_n (by decide +kernel) (by decide +kernel) (by decide +kernel) (by decide +kernel) (by decide +kernel) (by decide)
theorem wr_83 : am_u (urn 83) 77 2 (some 78) = urn 84 := urn_s (by decide +kernel)
theorem wr_84 : am_u (urn 84) 66 13 (some 77) = urn 85 := urn_s (by decide +kernel)
theorem nw_79 : am_new 4 4 (usn xs 221) (urn 85) am_g0 (utn L fl 79) = (usn xs 221, urn 85, am_g0, utn L fl 80) := new_n (by decide +kernel) (by decide +kernel) (by decide +kernel) (by decide +kernel) (by decide +kernel) (by decide)
theorem tk_79 {n : Nat} (h : 79 < n) : (utn L fl n).1 79 = 4 := (utn_k h).trans (by decide +kernel)
theorem ws_221 : am_u (usn xs 221) 79 3 0 = usn xs 222 := usn_s (by decide +kernel)
theorem ws_222 : am_u (usn xs 222) 79 0 16 = usn xs 223 := usn_s (by decide +kernel)
theorem ws_223 : am_u (usn xs 223) 79 1 3 = usn xs 224 := usn_s (by decide +kernel)
theorem qs_224_79_0 : usn xs 224 79 0 = 16 := (usn_at (by decide)).trans (by decide +kernel)
theorem qs_224_79_1 : usn xs 224 79 1 = 3 := (usn_at (by decide)).trans (by decide +kernel)
theorem nw_80 : am_new 15 48 (usn xs 224) (urn 85) am_g0 (utn L fl 80) = (usn xs 224, urn 85, am_g0, utn L fl 81) := new_n (by decide +kernel) (by decide +kernel) (by decide +kernel) (by decide +kernel) (by decide +kernel) (by decide)
theorem wr_85 : am_u (urn 85) 79 2 (some 80) = urn 86 := urn_s (by decide +kernel)
theorem wr_86 : am_u (urn 86) 66 14 (some 79) = urn 87 := urn_s (by decide +kernel)
theorem nw_81 : am_new 4 4 (usn xs 224) (urn 87) am_g0 (utn L fl 81) = (usn xs 224, urn 87, am_g0, utn L fl 82) := new_n (by decide +kernel) (by decide +kernel) (by decide +kernel) (by decide +kernel) (by decide +kernel) (by decide)
theorem tk_81 {n : Nat} (h : 81 < n) : (utn L fl n).1 81 = 4 := (utn_k h).trans (by decide +kernel)
theorem ws_224 : am_u (usn xs 224) 81 3 0 = usn xs 225 := usn_s (by decide +kernel)
theorem ws_225 : am_u (usn xs 225) 81 0 8 = usn xs 226 := usn_s (by decide +kernel)
theorem ws_226 : am_u (usn xs 226) 81 1 4 = usn xs 227 := usn_s (by decide +kernel)
theorem qs_227_81_0 : usn xs 227 81 0 = 8 := (usn_at (by decide)).trans (by decide +kernel)
theorem qs_227_81_1 : usn xs 227 81 1 = 4 := (usn_at (by decide)).trans (by decide +kernel)
theorem nw_82 : am_new 15 32 (usn xs 227) (urn 87) am_g0 (utn L fl 82) = (usn xs 227, urn 87, am_g0, utn L fl 83) := new_n (by decide +kernel) (by decide +kernel) (by decide +kernel) (by decide +kernel) (by decide +kernel) (by decide)
theorem wr_87 : am_u (urn 87) 81 2 (some 82) = urn 88 := urn_s (by decide +kernel)
theorem wr_88 : am_u (urn 88) 66 15 (some 81) = urn 89 := urn_s (by decide +kernel)
theorem qr_89_66_2 : urn 89 66 2 = some 67 := urn_at (by decide +kernel)
theorem tk_67 {n : Nat} (h : 67 < n) : (utn L fl n).1 67 = 15 := (utn_k h).trans (by decide +kernel)
theorem tl_67 {n : Nat} (h : 67 < n) : (utn L fl n).2.1 67 = 3 := (utn_l h).trans (by decide +kernel)
theorem qr_89_66_3 : urn 89 66 3 = some 68 := urn_at (by decide +kernel)
theorem tk_68 {n : Nat} (h : 68 < n) : (utn L fl n).1 68 = 15 := (utn_k h).trans (by decide +kernel)
theorem tl_68 {n : Nat} (h : 68 < n) : (utn L fl n).2.1 68 = 12 := (utn_l h).trans (by decide +kernel)
theorem qr_89_66_5 : urn 89 66 5 = some 70 := urn_at (by decide +kernel)
theorem nw_83 : am_new 7 5 (usn xs 242) (urn 89) am_g0 (utn L fl 83) = (usn xs 242, urn 89, am_g0, utn L fl 84) := new_n (by decide +kernel) (by decide +kernel) (by decide +kernel) (by decide +kernel) (by decide +kernel) (by decide)
theorem tk_83 {n : Nat} (h : 83 < n) : (utn L fl n).1 83 = 7 := (utn_k h).trans (by decide +kernel)
theorem ws_242 : am_u (usn xs 242) 83 0 0 = usn xs 243 := usn_s (by decide +kernel)
theorem ws_243 : am_u (usn xs 243) 83 1 1 = usn xs 244 := usn_s (by decide +kernel)
theorem ws_244 : am_u (usn xs 244) 83 2 0 = usn xs 245 := usn_s (by decide +kernel)
theorem ws_245 : am_u (usn xs 245) 83 3 0 = usn xs 246 := usn_s (by decide +kernel)
theorem nw_84 : am_new 15 3 (usn xs 246) (urn 89) am_g0 (utn L fl 84) = (usn xs 246, urn 89, am_g0, utn L fl 85) := new_n (by decide +kernel) (by decide +kernel) (by decide +kernel) (by decide +kernel) (by decide +kernel) (by decide)
theorem wr_89 : am_u (urn 89) 83 4 (some 84) = urn 90 := urn_s (by decide +kernel)
theorem tk_70 {n : Nat} (h : 70 < n) : (utn L fl n).1 70 = 20 := (utn_k h).trans (by decide +kernel)
theorem tl_70 {n : Nat} (h : 70 < n) : (utn L fl n).2.1 70 = 8 := (utn_l h).trans (by decide +kernel)
theorem wr_90 : am_u (urn 90) 70 0 (some 83) = urn 91 := urn_s (by decide +kernel)
theorem qr_91_66_5 : urn 91 66 5 = some 70 := urn_at (by decide +kernel)
theorem nw_85 : am_new 7 5 (usn xs 246) (urn 91) am_g0 (utn L fl 85) = (usn xs 246, urn 91, am_g0, utn L fl 86) := new_n (by decide +kernel) (by decide +kernel) (by decide +kernel) (by decide +kernel) (by decide +kernel) (by decide)
theorem tk_85 {n : Nat} (h : 85 < n) : (utn L fl n).1 85 = 7 := (utn_k h).trans (by decide +kernel)
theorem ws_246 : am_u (usn xs 246) 85 0 0 = usn xs 247 := usn_s (by decide +kernel)
theorem ws_247 : am_u (usn xs 247) 85 1 1 = usn xs 248 := usn_s (by decide +kernel)
theorem ws_248 : am_u (usn xs 248) 85 2 0 = usn xs 249 := usn_s (by decide +kernel)
theorem ws_249 : am_u (usn xs 249) 85 3 0 = usn xs 250 := usn_s (by decide +kernel)
theorem nw_86 : am_new 15 3 (usn xs 250) (urn 91) am_g0 (utn L fl 86) = (usn xs 250, urn 91, am_g0, utn L fl 87) := new_n (by decide +kernel) (by decide +kernel) (by decide +kernel) (by decide +kernel) (by decide +kernel) (by decide)
theorem wr_91 : am_u (urn 91) 85 4 (some 86) = urn 92 := urn_s (by decide +kernel)
theorem wr_92 : am_u (urn 92) 70 1 (some 85) = urn 93 := urn_s (by decide +kernel)
theorem qr_93_66_5 : urn 93 66 5 = some 70 := urn_at (by decide +kernel)
theorem nw_87 : am_new 7 5 (usn xs 250) (urn 93) am_g0 (utn L fl 87) = (usn xs 250, urn 93, am_g0, utn L fl 88) := new_n (by decide +kernel) (by decide +kernel) (by decide +kernel) (by decide +kernel) (by decide +kernel) (by decide)
theorem tk_87 {n : Nat} (h : 87 < n) : (utn L fl n).1 87 = 7 := (utn_k h).trans (by decide +kernel)
theorem ws_250 : am_u (usn xs 250) 87 0 0 = usn xs 251 := usn_s (by decide +kernel)
theorem ws_251 : am_u (usn xs 251) 87 1 1 = usn xs 252 := usn_s (by decide +kernel)
theorem ws_252 : am_u (usn xs 252) 87 2 0 = usn xs 253 := usn_s (by decide +kernel)
theorem ws_253 : am_u (usn xs 253) 87 3 0 = usn xs 254 := usn_s (by decide +kernel)
theorem nw_88 : am_new 15 3 (usn xs 254) (urn 93) am_g0 (utn L fl 88) = (usn xs 254, urn 93, am_g0, utn L fl 89) := new_n (by decide +kernel) (by decide +kernel) (by decide +kernel) (by decide +kernel) (by decide +kernel) (by decide)
theorem wr_93 : am_u (urn 93) 87 4 (some 88) = urn 94 := urn_s (by decide +kernel)
theorem wr_94 : am_u (urn 94) 70 2 (some 87) = urn 95 := urn_s (by decide +kernel)
theorem qr_95_66_5 : urn 95 66 5 = some 70 := urn_at (by decide +kernel)
theorem nw_89 : am_new 7 5 (usn xs 254) (urn 95) am_g0 (utn L fl 89) = (usn xs 254, urn 95, am_g0, utn L fl 90) := new_n (by decide +kernel) (by decide +kernel) (by decide +kernel) (by decide +kernel) (by decide +kernel) (by decide)
theorem tk_89 {n : Nat} (h : 89 < n) : (utn L fl n).1 89 = 7 := (utn_k h).trans (by decide +kernel)
theorem ws_254 : am_u (usn xs 254) 89 0 0 = usn xs 255 := usn_s (by decide +kernel)
theorem ws_255 : am_u (usn xs 255) 89 1 1 = usn xs 256 := usn_s (by decide +kernel)
theorem ws_256 : am_u (usn xs 256) 89 2 0 = usn xs 257 := usn_s (by decide +kernel)
theorem ws_257 : am_u (usn xs 257) 89 3 0 = usn xs 258 := usn_s (by decide +kernel)
theorem nw_90 : am_new 15 3 (usn xs 258) (urn 95) am_g0 (utn L fl 90) = (usn xs 258, urn 95, am_g0, utn L fl 91) := new_n (by decide +kernel) (by decide +kernel) (by decide +kernel) (by decide +kernel) (by decide +kernel) (by decide)
theorem wr_95 : am_u (urn 95) 89 4 (some 90) = urn 96 := urn_s (by decide +kernel)
theorem wr_96 : am_u (urn 96) 70 3 (some 89) = urn 97 := urn_s (by decide +kernel)
theorem qr_97_66_5 : urn 97 66 5 = some 70 := urn_at (by decide +kernel)
theorem nw_91 : am_new 7 5 (usn xs 258) (urn 97) am_g0 (utn L fl 91) = (usn xs 258, urn 97, am_g0, utn L fl 92) := new_n (by decide +kernel) (by decide +kernel) (by decide +kernel) (by decide +kernel) (by decide +kernel) (by decide)
theorem tk_91 {n : Nat} (h : 91 < n) : (utn L fl n).1 91 = 7 := (utn_k h).trans (by decide +kernel)
theorem ws_258 : am_u (usn xs 258) 91 0 0 = usn xs 259 := usn_s (by decide +kernel)
theorem ws_259 : am_u (usn xs 259) 91 1 1 = usn xs 260 := usn_s (by decide +kernel)
theorem ws_260 : am_u (usn xs 260) 91 2 0 = usn xs 261 := usn_s (by decide +kernel)
theorem ws_261 : am_u (usn xs 261) 91 3 0 = usn xs 262 := usn_s (by decide +kernel)
theorem nw_92 : am_new 15 3 (usn xs 262) (urn 97) am_g0 (utn L fl 92) = (usn xs 262, urn 97, am_g0, utn L fl 93) := new_n (by decide +kernel) (by decide +kernel) (by decide +kernel) (by decide +kernel) (by decide +kernel) (by decide)
theorem wr_97 : am_u (urn 97) 91 4 (some 92) = urn 98 := urn_s (by decide +kernel)
theorem wr_98 : am_u (urn 98) 70 4 (some 91) = urn 99 := urn_s (by decide +kernel)
theorem qr_99_66_5 : urn 99 66 5 = some 70 := urn_at (by decide +kernel)
theorem nw_93 : am_new 7 5 (usn xs 262) (urn 99) am_g0 (utn L fl 93) = (usn xs 262, urn 99, am_g0, utn L fl 94) := new_n (by decide +kernel) (by decide +kernel) (by decide +kernel) (by decide +kernel) (by decide +kernel) (by decide)
theorem tk_93 {n : Nat} (h : 93 < n) : (utn L fl n).1 93 = 7 := (utn_k h).trans (by decide +kernel)
theorem ws_262 : am_u (usn xs 262) 93 0 0 = usn xs 263 := usn_s (by decide +kernel)
theorem ws_263 : am_u (usn xs 263) 93 1 1 = usn xs 264 := usn_s (by decide +kernel)
theorem ws_264 : am_u (usn xs 264) 93 2 0 = usn xs 265 := usn_s (by decide +kernel)
theorem ws_265 : am_u (usn xs 265) 93 3 0 = usn xs 266 := usn_s (by decide +kernel)
theorem nw_94 : am_new 15 3 (usn xs 266) (urn 99) am_g0 (utn L fl 94) = (usn xs 266, urn 99, am_g0, utn L fl 95) := new_n (by decide +kernel) (by decide +kernel) (by decide +kernel) (by decide +kernel) (by decide +kernel) (by decide)
theorem wr_99 : am_u (urn 99) 93 4 (some 94) = urn 100 := urn_s (by decide +kernel)
theorem wr_100 : am_u (urn 100) 70 5 (some 93) = urn 101 := urn_s (by decide +kernel)
theorem qr_101_66_5 : urn 101 66 5 = some 70 := urn_at (by decide +kernel)
theorem nw_95 : am_new 7 5 (usn xs 266) (urn 101) am_g0 (utn L fl 95) = (usn xs 266, urn 101, am_g0, utn L fl 96) := new_n (by decide +kernel) (by decide +kernel) (by decide +kernel) (by decide +kernel) (by decide +kernel) (by decide)
theorem tk_95 {n : Nat} (h : 95 < n) : (utn L fl n).1 95 = 7 := (utn_k h).trans (by decide +kernel)
theorem ws_266 : am_u (usn xs 266) 95 0 0 = usn xs 267 := usn_s (by decide +kernel)
theorem ws_267 : am_u (usn xs 267) 95 1 1 = usn xs 268 := usn_s (by decide +kernel)
theorem ws_268 : am_u (usn xs 268) 95 2 0 = usn xs 269 := usn_s (by decide +kernel)
theorem ws_269 : am_u (usn xs 269) 95 3 0 = usn xs 270 := usn_s (by decide +kernel)
theorem nw_96 : am_new 15 3 (usn xs 270) (urn 101) am_g0 (utn L fl 96) = (usn xs 270, urn 101, am_g0, utn L fl 97) := new_n (by decide +kernel) (by decide +kernel) (by decide +kernel) (by decide +kernel) (by decide +kernel) (by decide)
theorem wr_101 : am_u (urn 101) 95 4 (some 96) = urn 102 := urn_s (by decide +kernel)
theorem wr_102 : am_u (urn 102) 70 6 (some 95) = urn 103 := urn_s (by decide +kernel)
theorem qr_103_66_5 : urn 103 66 5 = some 70 := urn_at (by decide +kernel)
theorem nw_97 : am_new 7 5 (usn xs 270) (urn 103) am_g0 (utn L fl 97) = (usn xs 270, urn 103, am_g0, utn L fl 98) := new_n (by decide +kernel) (by decide +kernel) (by decide +kernel) (by decide +kernel) (by decide +kernel) (by decide)
theorem tk_97 {n : Nat} (h : 97 < n) : (utn L fl n).1 97 = 7 := (utn_k h).trans (by decide +kernel)
theorem ws_270 : am_u (usn xs 270) 97 0 0 = usn xs 271 := usn_s (by decide +kernel)
theorem ws_271 : am_u (usn xs 271) 97 1 1 = usn xs 272 := usn_s (by decide +kernel)
theorem ws_272 : am_u (usn xs 272) 97 2 0 = usn xs 273 := usn_s (by decide +kernel)
theorem ws_273 : am_u (usn xs 273) 97 3 0 = usn xs 274 := usn_s (by decide +kernel)
theorem nw_98 : am_new 15 3 (usn xs 274) (urn 103) am_g0 (utn L fl 98) = (usn xs 274, urn 103, am_g0, utn L fl 99) := new_n (by decide +kernel) (by decide +kernel) (by decide +kernel) (by decide +kernel) (by decide +kernel) (by decide)
theorem wr_103 : am_u (urn 103) 97 4 (some 98) = urn 104 := urn_s (by decide +kernel)
theorem wr_104 : am_u (urn 104) 70 7 (some 97) = urn 105 := urn_s (by decide +kernel)
theorem qr_105_66_7 : urn 105 66 7 = some 71 := urn_at (by decide +kernel)
theorem nw_99 : am_new 1 10 (usn xs 274) (urn 105) am_g0 (utn L fl 99) = (usn xs 274, urn 105, am_g0, utn L fl 100) := new_n (by decide +kernel) (by decide +kernel) (by decide +kernel) (by decide +kernel) (by decide +kernel) (by decide)
theorem tk_99 {n : Nat} (h : 99 < n) : (utn L fl n).1 99 = 1 := (utn_k h).trans (by decide +kernel)
theorem ws_274 : am_u (usn xs 274) 99 0 0 = usn xs 275 := usn_s (by decide +kernel)
theorem ws_275 : am_u (usn xs 275) 99 1 0 = usn xs 276 := usn_s (by decide +kernel)
theorem ws_276 : am_u (usn xs 276) 99 2 0 = usn xs 277 := usn_s (by decide +kernel)
theorem ws_277 : am_u (usn xs 277) 99 3 1 = usn xs 278 := usn_s (by decide +kernel)
theorem ws_278 : am_u (usn xs 278) 99 4 1 = usn xs 279 := usn_s (by decide +kernel)
theorem ws_279 : am_u (usn xs 279) 99 5 0 = usn xs 280 := usn_s (by decide +kernel)
theorem ws_280 : am_u (usn xs 280) 99 6 0 = usn xs 281 := usn_s (by decide +kernel)
theorem ws_281 : am_u (usn xs 281) 99 7 0 = usn xs 282 := usn_s (by decide +kernel)
theorem ws_282 : am_u (usn xs 282) 99 8 0 = usn xs 283 := usn_s (by decide +kernel)
theorem nw_100 : am_new 15 7 (usn xs 283) (urn 105) am_g0 (utn L fl 100) = (usn xs 283, urn 105, am_g0, utn L fl 101) := new_n (by decide +kernel) (by decide +kernel) (by decide +kernel) (by decide +kernel) (by decide +kernel) (by decide)
theorem wr_105 : am_u (urn 105) 99 9 (some 100) = urn 106 := urn_s (by decide +kernel)
theorem tk_71 {n : Nat} (h : 71 < n) : (utn L fl n).1 71 = 18 := (utn_k h).trans (by decide +kernel)
theorem tl_71 {n : Nat} (h : 71 < n) : (utn L fl n).2.1 71 = 16 := (utn_l h).trans (by decide +kernel)
theorem wr_106 : am_u (urn 106) 71 0 (some 99) = urn 107 := urn_s (by decide +kernel)
theorem qr_107_66_7 : urn 107 66 7 = some 71 := urn_at (by decide +kernel)
theorem nw_101 : am_new 1 10 (usn xs 283) (urn 107) am_g0 (utn L fl 101) = (usn xs 283, urn 107, am_g0, utn L fl 102) := new_n (by decide +kernel) (by decide +kernel) (by decide +kernel) (by decide +kernel) (by decide +kernel) (by decide)
theorem tk_101 {n : Nat} (h : 101 < n) : (utn L fl n).1 101 = 1 := (utn_k h).trans (by decide +kernel)
theorem ws_283 : am_u (usn xs 283) 101 0 0 = usn xs 284 := usn_s (by decide +kernel)
theorem ws_284 : am_u (usn xs 284) 101 1 0 = usn xs 285 := usn_s (by decide +kernel)
theorem ws_285 : am_u (usn xs 285) 101 2 0 = usn xs 286 := usn_s (by decide +kernel)
theorem ws_286 : am_u (usn xs 286) 101 3 1 = usn xs 287 := usn_s (by decide +kernel)
theorem ws_287 : am_u (usn xs 287) 101 4 1 = usn xs 288 := usn_s (by decide +kernel)
theorem ws_288 : am_u (usn xs 288) 101 5 0 = usn xs 289 := usn_s (by decide +kernel)
theorem ws_289 : am_u (usn xs 289) 101 6 0 = usn xs 290 := usn_s (by decide +kernel)
theorem ws_290 : am_u (usn xs 290) 101 7 0 = usn xs 291 := usn_s (by decide +kernel)
theorem ws_291 : am_u (usn xs 291) 101 8 0 = usn xs 292 := usn_s (by decide +kernel)
theorem nw_102 : am_new 15 7 (usn xs 292) (urn 107) am_g0 (utn L fl 102) = (usn xs 292, urn 107, am_g0, utn L fl 103) := new_n (by decide +kernel) (by decide +kernel) (by decide +kernel) (by decide +kernel) (by decide +kernel) (by decide)
theorem wr_107 : am_u (urn 107) 101 9 (some 102) = urn 108 := urn_s (by decide +kernel)
theorem wr_108 : am_u (urn 108) 71 1 (some 101) = urn 109 := urn_s (by decide +kernel)
theorem qr_109_66_7 : urn 109 66 7 = some 71 := urn_at (by decide +kernel)
theorem nw_103 : am_new 1 10 (usn xs 292) (urn 109) am_g0 (utn L fl 103) = (usn xs 292, urn 109, am_g0, utn L fl 104) := new_n (by decide +kernel) (by decide +kernel) (by decide +kernel) (by decide +kernel) (by decide +kernel) (by decide)
theorem tk_103 {n : Nat} (h : 103 < n) : (utn L fl n).1 103 = 1 := (utn_k h).trans (by decide +kernel)
theorem ws_292 : am_u (usn xs 292) 103 0 0 = usn xs 293 := usn_s (by decide +kernel)
theorem ws_293 : am_u (usn xs 293) 103 1 0 = usn xs 294 := usn_s (by decide +kernel)
theorem ws_294 : am_u (usn xs 294) 103 2 0 = usn xs 295 := usn_s (by decide +kernel)
theorem ws_295 : am_u (usn xs 295) 103 3 1 = usn xs 296 := usn_s (by decide +kernel)
theorem ws_296 : am_u (usn xs 296) 103 4 1 = usn xs 297 := usn_s (by decide +kernel)
theorem ws_297 : am_u (usn xs 297) 103 5 0 = usn xs 298 := usn_s (by decide +kernel)
theorem ws_298 : am_u (usn xs 298) 103 6 0 = usn xs 299 := usn_s (by decide +kernel)
theorem ws_299 : am_u (usn xs 299) 103 7 0 = usn xs 300 := usn_s (by decide +kernel)
theorem ws_300 : am_u (usn xs 300) 103 8 0 = usn xs 301 := usn_s (by decide +kernel)
theorem nw_104 : am_new 15 7 (usn xs 301) (urn 109) am_g0 (utn L fl 104) = (usn xs 301, urn 109, am_g0, utn L fl 105) := new_n (by decide +kernel) (by decide +kernel) (by decide +kernel) (by decide +kernel) (by decide +kernel) (by decide)
theorem wr_109 : am_u (urn 109) 103 9 (some 104) = urn 110 := urn_s (by decide +kernel)
theorem wr_110 : am_u (urn 110) 71 2 (some 103) = urn 111 := urn_s (by decide +kernel)
theorem qr_111_66_7 : urn 111 66 7 = some 71 := urn_at (by decide +kernel)
theorem nw_105 : am_new 1 10 (usn xs 301) (urn 111) am_g0 (utn L fl 105) = (usn xs 301, urn 111, am_g0, utn L fl 106) := new_n (by decide +kernel) (by decide +kernel) (by decide +kernel) (by decide +kernel) (by decide +kernel) (by decide)
theorem tk_105 {n : Nat} (h : 105 < n) : (utn L fl n).1 105 = 1 := (utn_k h).trans (by decide +kernel)
theorem ws_301 : am_u (usn xs 301) 105 0 0 = usn xs 302 := usn_s (by decide +kernel)
theorem ws_302 : am_u (usn xs 302) 105 1 0 = usn xs 303 := usn_s (by decide +kernel)
theorem ws_303 : am_u (usn xs 303) 105 2 0 = usn xs 304 := usn_s (by decide +kernel)
theorem ws_304 : am_u (usn xs 304) 105 3 1 = usn xs 305 := usn_s (by decide +kernel)
theorem ws_305 : am_u (usn xs 305) 105 4 1 = usn xs 306 := usn_s (by decide +kernel)
theorem ws_306 : am_u (usn xs 306) 105 5 0 = usn xs 307 := usn_s (by decide +kernel)
theorem ws_307 : am_u (usn xs 307) 105 6 0 = usn xs 308 := usn_s (by decide +kernel)
theorem ws_308 : am_u (usn xs 308) 105 7 0 = usn xs 309 := usn_s (by decide +kernel)
theorem ws_309 : am_u (usn xs 309) 105 8 0 = usn xs 310 := usn_s (by decide +kernel)
theorem nw_106 : am_new 15 7 (usn xs 310) (urn 111) am_g0 (utn L fl 106) = (usn xs 310, urn 111, am_g0, utn L fl 107) := new_n (by decide +kernel) (by decide +kernel) (by decide +kernel) (by decide +kernel) (by decide +kernel) (by decide)
theorem wr_111 : am_u (urn 111) 105 9 (some 106) = urn 112 := urn_s (by decide +kernel)
theorem wr_112 : am_u (urn 112) 71 3 (some 105) = urn 113 := urn_s (by decide +kernel)
theorem qr_113_66_7 : urn 113 66 7 = some 71 := urn_at (by decide +kernel)
theorem nw_107 : am_new 1 10 (usn xs 310) (urn 113) am_g0 (utn L fl 107) = (usn xs 310, urn 113, am_g0, utn L fl 108) := new_n (by decide +kernel) (by decide +kernel) (by decide +kernel) (by decide +kernel) (by decide +kernel) (by decide)
theorem tk_107 {n : Nat} (h : 107 < n) : (utn L fl n).1 107 = 1 := (utn_k h).trans (by decide +kernel)
theorem ws_310 : am_u (usn xs 310) 107 0 0 = usn xs 311 := usn_s (by decide +kernel)
theorem ws_311 : am_u (usn xs 311) 107 1 0 = usn xs 312 := usn_s (by decide +kernel)
theorem ws_312 : am_u (usn xs 312) 107 2 0 = usn xs 313 := usn_s (by decide +kernel)
theorem ws_313 : am_u (usn xs 313) 107 3 1 = usn xs 314 := usn_s (by decide +kernel)
theorem ws_314 : am_u (usn xs 314) 107 4 1 = usn xs 315 := usn_s (by decide +kernel)
theorem ws_315 : am_u (usn xs 315) 107 5 0 = usn xs 316 := usn_s (by decide +kernel)
theorem ws_316 : am_u (usn xs 316) 107 6 0 = usn xs 317 := usn_s (by decide +kernel)
theorem ws_317 : am_u (usn xs 317) 107 7 0 = usn xs 318 := usn_s (by decide +kernel)
theorem ws_318 : am_u (usn xs 318) 107 8 0 = usn xs 319 := usn_s (by decide +kernel)
theorem nw_108 : am_new 15 7 (usn xs 319) (urn 113) am_g0 (utn L fl 108) = (usn xs 319, urn 113, am_g0, utn L fl 109) := new_n (by decide +kernel) (by decide +kernel) (by decide +kernel) (by decide +kernel) (by decide +kernel) (by decide)
theorem wr_113 : am_u (urn 113) 107 9 (some 108) = urn 114 := urn_s (by decide +kernel)
theorem wr_114 : am_u (urn 114) 71 4 (some 107) = urn 115 := urn_s (by decide +kernel)
theorem qr_115_66_7 : urn 115 66 7 = some 71 := urn_at (by decide +kernel)
theorem nw_109 : am_new 1 10 (usn xs 319) (urn 115) am_g0 (utn L fl 109) = (usn xs 319, urn 115, am_g0, utn L fl 110) := new_n (by decide +kernel) (by decide +kernel) (by decide +kernel) (by decide +kernel) (by decide +kernel) (by decide)
theorem tk_109 {n : Nat} (h : 109 < n) : (utn L fl n).1 109 = 1 := (utn_k h).trans (by decide +kernel)
theorem ws_319 : am_u (usn xs 319) 109 0 0 = usn xs 320 := usn_s (by decide +kernel)
theorem ws_320 : am_u (usn xs 320) 109 1 0 = usn xs 321 := usn_s (by decide +kernel)
theorem ws_321 : am_u (usn xs 321) 109 2 0 = usn xs 322 := usn_s (by decide +kernel)
theorem ws_322 : am_u (usn xs 322) 109 3 1 = usn xs 323 := usn_s (by decide +kernel)
theorem ws_323 : am_u (usn xs 323) 109 4 1 = usn xs 324 := usn_s (by decide +kernel)
theorem ws_324 : am_u (usn xs 324) 109 5 0 = usn xs 325 := usn_s (by decide +kernel)
theorem ws_325 : am_u (usn xs 325) 109 6 0 = usn xs 326 := usn_s (by decide +kernel)
theorem ws_326 : am_u (usn xs 326) 109 7 0 = usn xs 327 := usn_s (by decide +kernel)
theorem ws_327 : am_u (usn xs 327) 109 8 0 = usn xs 328 := usn_s (by decide +kernel)
theorem nw_110 : am_new 15 7 (usn xs 328) (urn 115) am_g0 (utn L fl 110) = (usn xs 328, urn 115, am_g0, utn L fl 111) := new_n (by decide +kernel) (by decide +kernel) (by decide +kernel) (by decide +kernel) (by decide +kernel) (by decide)
theorem wr_115 : am_u (urn 115) 109 9 (some 110) = urn 116 := urn_s (by decide +kernel)
theorem wr_116 : am_u (urn 116) 71 5 (some 109) = urn 117 := urn_s (by decide +kernel)
theorem qr_117_66_7 : urn 117 66 7 = some 71 := urn_at (by decide +kernel)
theorem nw_111 : am_new 1 10 (usn xs 328) (urn 117) am_g0 (utn L fl 111) = (usn xs 328, urn 117, am_g0, utn L fl 112) := new_n (by decide +kernel) (by decide +kernel) (by decide +kernel) (by decide +kernel) (by decide +kernel) (by decide)
theorem tk_111 {n : Nat} (h : 111 < n) : (utn L fl n).1 111 = 1 := (utn_k h).trans (by decide +kernel)
theorem ws_328 : am_u (usn xs 328) 111 0 0 = usn xs 329 := usn_s (by decide +kernel)
theorem ws_329 : am_u (usn xs 329) 111 1 0 = usn xs 330 := usn_s (by decide +kernel)
theorem ws_330 : am_u (usn xs 330) 111 2 0 = usn xs 331 := usn_s (by decide +kernel)
theorem ws_331 : am_u (usn xs 331) 111 3 1 = usn xs 332 := usn_s (by decide +kernel)
theorem ws_332 : am_u (usn xs 332) 111 4 1 = usn xs 333 := usn_s (by decide +kernel)
theorem ws_333 : am_u (usn xs 333) 111 5 0 = usn xs 334 := usn_s (by decide +kernel)
theorem ws_334 : am_u (usn xs 334) 111 6 0 = usn xs 335 := usn_s (by decide +kernel)
theorem ws_335 : am_u (usn xs 335) 111 7 0 = usn xs 336 := usn_s (by decide +kernel)
theorem ws_336 : am_u (usn xs 336) 111 8 0 = usn xs 337 := usn_s (by decide +kernel)
theorem nw_112 : am_new 15 7 (usn xs 337) (urn 117) am_g0 (utn L fl 112) = (usn xs 337, urn 117, am_g0, utn L fl 113) := new_n (by decide +kernel) (by decide +kernel) (by decide +kernel) (by decide +kernel) (by decide +kernel) (by decide)
theorem wr_117 : am_u (urn 117) 111 9 (some 112) = urn 118 := urn_s (by decide +kernel)
theorem wr_118 : am_u (urn 118) 71 6 (some 111) = urn 119 := urn_s (by decide +kernel)
theorem qr_119_66_7 : urn 119 66 7 = some 71 := urn_at (by decide +kernel)
theorem nw_113 : am_new 1 10 (usn xs 337) (urn 119) am_g0 (utn L fl 113) = (usn xs 337, urn 119, am_g0, utn L fl 114) := new_n (by decide +kernel) (by decide +kernel) (by decide +kernel) (by decide +kernel) (by decide +kernel) (by decide)
theorem tk_113 {n : Nat} (h : 113 < n) : (utn L fl n).1 113 = 1 := (utn_k h).trans (by decide +kernel)
theorem ws_337 : am_u (usn xs 337) 113 0 0 = usn xs 338 := usn_s (by decide +kernel)
theorem ws_338 : am_u (usn xs 338) 113 1 0 = usn xs 339 := usn_s (by decide +kernel)
theorem ws_339 : am_u (usn xs 339) 113 2 0 = usn xs 340 := usn_s (by decide +kernel)
theorem ws_340 : am_u (usn xs 340) 113 3 1 = usn xs 341 := usn_s (by decide +kernel)
theorem ws_341 : am_u (usn xs 341) 113 4 1 = usn xs 342 := usn_s (by decide +kernel)
theorem ws_342 : am_u (usn xs 342) 113 5 0 = usn xs 343 := usn_s (by decide +kernel)
theorem ws_343 : am_u (usn xs 343) 113 6 0 = usn xs 344 := usn_s (by decide +kernel)
theorem ws_344 : am_u (usn xs 344) 113 7 0 = usn xs 345 := usn_s (by decide +kernel)
theorem ws_345 : am_u (usn xs 345) 113 8 0 = usn xs 346 := usn_s (by decide +kernel)
theorem nw_114 : am_new 15 7 (usn xs 346) (urn 119) am_g0 (utn L fl 114) = (usn xs 346, urn 119, am_g0, utn L fl 115) := new_n (by decide +kernel) (by decide +kernel) (by decide +kernel) (by decide +kernel) (by decide +kernel) (by decide)
theorem wr_119 : am_u (urn 119) 113 9 (some 114) = urn 120 := urn_s (by decide +kernel)
theorem wr_120 : am_u (urn 120) 71 7 (some 113) = urn 121 := urn_s (by decide +kernel)
theorem qr_121_66_7 : urn 121 66 7 = some 71 := urn_at (by decide +kernel)
theorem nw_115 : am_new 1 10 (usn xs 346) (urn 121) am_g0 (utn L fl 115) = (usn xs 346, urn 121, am_g0, utn L fl 116) := new_n (by decide +kernel) (by decide +kernel) (by decide +kernel) (by decide +kernel) (by decide +kernel) (by decide)
theorem tk_115 {n : Nat} (h : 115 < n) : (utn L fl n).1 115 = 1 := (utn_k h).trans (by decide +kernel)
theorem ws_346 : am_u (usn xs 346) 115 0 0 = usn xs 347 := usn_s (by decide +kernel)
theorem ws_347 : am_u (usn xs 347) 115 1 0 = usn xs 348 := usn_s (by decide +kernel)
theorem ws_348 : am_u (usn xs 348) 115 2 0 = usn xs 349 := usn_s (by decide +kernel)
theorem ws_349 : am_u (usn xs 349) 115 3 1 = usn xs 350 := usn_s (by decide +kernel)
theorem ws_350 : am_u (usn xs 350) 115 4 1 = usn xs 351 := usn_s (by decide +kernel)
theorem ws_351 : am_u (usn xs 351) 115 5 0 = usn xs 352 := usn_s (by decide +kernel)
theorem ws_352 : am_u (usn xs 352) 115 6 0 = usn xs 353 := usn_s (by decide +kernel)
theorem ws_353 : am_u (usn xs 353) 115 7 0 = usn xs 354 := usn_s (by decide +kernel)
theorem ws_354 : am_u (usn xs 354) 115 8 0 = usn xs 355 := usn_s (by decide +kernel)
theorem nw_116 : am_new 15 7 (usn xs 355) (urn 121) am_g0 (utn L fl 116) = (usn xs 355, urn 121, am_g0, utn L fl 117) := new_n (by decide +kernel) (by decide +kernel) (by decide +kernel) (by decide +kernel) (by decide +kernel) (by decide)
theorem wr_121 : am_u (urn 121) 115 9 (some 116) = urn 122 := urn_s (by decide +kernel)
theorem wr_122 : am_u (urn 122) 71 8 (some 115) = urn 123 := urn_s (by decide +kernel)
theorem qr_123_66_7 : urn 123 66 7 = some 71 := urn_at (by decide +kernel)
theorem nw_117 : am_new 1 10 (usn xs 355) (urn 123) am_g0 (utn L fl 117) = (usn xs 355, urn 123, am_g0, utn L fl 118) := new_n (by decide +kernel) (by decide +kernel) (by decide +kernel) (by decide +kernel) (by decide +kernel) (by decide)
theorem tk_117 {n : Nat} (h : 117 < n) : (utn L fl n).1 117 = 1 := (utn_k h).trans (by decide +kernel)
theorem ws_355 : am_u (usn xs 355) 117 0 0 = usn xs 356 := usn_s (by decide +kernel)
theorem ws_356 : am_u (usn xs 356) 117 1 0 = usn xs 357 := usn_s (by decide +kernel)
theorem ws_357 : am_u (usn xs 357) 117 2 0 = usn xs 358 := usn_s (by decide +kernel)
theorem ws_358 : am_u (usn xs 358) 117 3 1 = usn xs 359 := usn_s (by decide +kernel)
theorem ws_359 : am_u (usn xs 359) 117 4 1 = usn xs 360 := usn_s (by decide +kernel)
theorem ws_360 : am_u (usn xs 360) 117 5 0 = usn xs 361 := usn_s (by decide +kernel)
theorem ws_361 : am_u (usn xs 361) 117 6 0 = usn xs 362 := usn_s (by decide +kernel)
theorem ws_362 : am_u (usn xs 362) 117 7 0 = usn xs 363 := usn_s (by decide +kernel)
theorem ws_363 : am_u (usn xs 363) 117 8 0 = usn xs 364 := usn_s (by decide +kernel)
theorem nw_118 : am_new 15 7 (usn xs 364) (urn 123) am_g0 (utn L fl 118) = (usn xs 364, urn 123, am_g0, utn L fl 119) := new_n (by decide +kernel) (by decide +kernel) (by decide +kernel) (by decide +kernel) (by decide +kernel) (by decide)
theorem wr_123 : am_u (urn 123) 117 9 (some 118) = urn 124 := urn_s (by decide +kernel)
theorem wr_124 : am_u (urn 124) 71 9 (some 117) = urn 125 := urn_s (by decide +kernel)
theorem qr_125_66_7 : urn 125 66 7 = some 71 := urn_at (by decide +kernel)
theorem nw_119 : am_new 1 10 (usn xs 364) (urn 125) am_g0 (utn L fl 119) = (usn xs 364, urn 125, am_g0, utn L fl 120) := new_n (by decide +kernel) (by decide +kernel) (by decide +kernel) (by decide +kernel) (by decide +kernel) (by decide)
theorem tk_119 {n : Nat} (h : 119 < n) : (utn L fl n).1 119 = 1 := (utn_k h).trans (by decide +kernel)
theorem ws_364 : am_u (usn xs 364) 119 0 0 = usn xs 365 := usn_s (by decide +kernel)
theorem ws_365 : am_u (usn xs 365) 119 1 0 = usn xs 366 := usn_s (by decide +kernel)
theorem ws_366 : am_u (usn xs 366) 119 2 0 = usn xs 367 := usn_s (by decide +kernel)
theorem ws_367 : am_u (usn xs 367) 119 3 1 = usn xs 368 := usn_s (by decide +kernel)
theorem ws_368 : am_u (usn xs 368) 119 4 1 = usn xs 369 := usn_s (by decide +kernel)
theorem ws_369 : am_u (usn xs 369) 119 5 0 = usn xs 370 := usn_s (by decide +kernel)
theorem ws_370 : am_u (usn xs 370) 119 6 0 = usn xs 371 := usn_s (by decide +kernel)
theorem ws_371 : am_u (usn xs 371) 119 7 0 = usn xs 372 := usn_s (by decide +kernel)
theorem ws_372 : am_u (usn xs 372) 119 8 0 = usn xs 373 := usn_s (by decide +kernel)
theorem nw_120 : am_new 15 7 (usn xs 373) (urn 125) am_g0 (utn L fl 120) = (usn xs 373, urn 125, am_g0, utn L fl 121) := new_n (by decide +kernel) (by decide +kernel) (by decide +kernel) (by decide +kernel) (by decide +kernel) (by decide)
theorem wr_125 : am_u (urn 125) 119 9 (some 120) = urn 126 := urn_s (by decide +kernel)
theorem wr_126 : am_u (urn 126) 71 10 (some 119) = urn 127 := urn_s (by decide +kernel)
theorem qr_127_66_7 : urn 127 66 7 = some 71 := urn_at (by decide +kernel)
theorem nw_121 : am_new 1 10 (usn xs 373) (urn 127) am_g0 (utn L fl 121) = (usn xs 373, urn 127, am_g0, utn L fl 122) := new_n (by decide +kernel) (by decide +kernel) (by decide +kernel) (by decide +kernel) (by decide +kernel) (by decide)
theorem tk_121 {n : Nat} (h : 121 < n) : (utn L fl n).1 121 = 1 := (utn_k h).trans (by decide +kernel)
theorem ws_373 : am_u (usn xs 373) 121 0 0 = usn xs 374 := usn_s (by decide +kernel)
theorem ws_374 : am_u (usn xs 374) 121 1 0 = usn xs 375 := usn_s (by decide +kernel)
theorem ws_375 : am_u (usn xs 375) 121 2 0 = usn xs 376 := usn_s (by decide +kernel)
theorem ws_376 : am_u (usn xs 376) 121 3 1 = usn xs 377 := usn_s (by decide +kernel)
theorem ws_377 : am_u (usn xs 377) 121 4 1 = usn xs 378 := usn_s (by decide +kernel)
theorem ws_378 : am_u (usn xs 378) 121 5 0 = usn xs 379 := usn_s (by decide +kernel)
theorem ws_379 : am_u (usn xs 379) 121 6 0 = usn xs 380 := usn_s (by decide +kernel)
theorem ws_380 : am_u (usn xs 380) 121 7 0 = usn xs 381 := usn_s (by decide +kernel)
theorem ws_381 : am_u (usn xs 381) 121 8 0 = usn xs 382 := usn_s (by decide +kernel)
theorem nw_122 : am_new 15 7 (usn xs 382) (urn 127) am_g0 (utn L fl 122) = (usn xs 382, urn 127, am_g0, utn L fl 123) := new_n (by decide +kernel) (by decide +kernel) (by decide +kernel) (by decide +kernel) (by decide +kernel) (by decide)
theorem wr_127 : am_u (urn 127) 121 9 (some 122) = urn 128 := urn_s (by decide +kernel)
theorem wr_128 : am_u (urn 128) 71 11 (some 121) = urn 129 := urn_s (by decide +kernel)
theorem qr_129_66_7 : urn 129 66 7 = some 71 := urn_at (by decide +kernel)
theorem nw_123 : am_new 1 10 (usn xs 382) (urn 129) am_g0 (utn L fl 123) = (usn xs 382, urn 129, am_g0, utn L fl 124) := new_n (by decide +kernel) (by decide +kernel) (by decide +kernel) (by decide +kernel) (by decide +kernel) (by decide)
theorem tk_123 {n : Nat} (h : 123 < n) : (utn L fl n).1 123 = 1 := (utn_k h).trans (by decide +kernel)
theorem ws_382 : am_u (usn xs 382) 123 0 0 = usn xs 383 := usn_s (by decide +kernel)
theorem ws_383 : am_u (usn xs 383) 123 1 0 = usn xs 384 := usn_s (by decide +kernel)
theorem ws_384 : am_u (usn xs 384) 123 2 0 = usn xs 385 := usn_s (by decide +kernel)
theorem ws_385 : am_u (usn xs 385) 123 3 1 = usn xs 386 := usn_s (by decide +kernel)
theorem ws_386 : am_u (usn xs 386) 123 4 1 = usn xs 387 := usn_s (by decide +kernel)
theorem ws_387 : am_u (usn xs 387) 123 5 0 = usn xs 388 := usn_s (by decide +kernel)
theorem ws_388 : am_u (usn xs 388) 123 6 0 = usn xs 389 := usn_s (by decide +kernel)
theorem ws_389 : am_u (usn xs 389) 123 7 0 = usn xs 390 := usn_s (by decide +kernel)
theorem ws_390 : am_u (usn xs 390) 123 8 0 = usn xs 391 := usn_s (by decide +kernel)
theorem nw_124 : am_new 15 7 (usn xs 391) (urn 129) am_g0 (utn L fl 124) = (usn xs 391, urn 129, am_g0, utn L fl 125) := new_n (by decide +kernel) (by decide +kernel) (by decide +kernel) (by decide +kernel) (by decide +kernel) (by decide)
theorem wr_129 : am_u (urn 129) 123 9 (some 124) = urn 130 := urn_s (by decide +kernel)
theorem wr_130 : am_u (urn 130) 71 12 (some 123) = urn 131 := urn_s (by decide +kernel)
theorem qr_131_66_7 : urn 131 66 7 = some 71 := urn_at (by decide +kernel)
theorem nw_125 : am_new 1 10 (usn xs 391) (urn 131) am_g0 (utn L fl 125) = (usn xs 391, urn 131, am_g0, utn L fl 126) := new_n (by decide +kernel) (by decide +kernel) (by decide +kernel) (by decide +kernel) (by decide +kernel) (by decide)
theorem tk_125 {n : Nat} (h : 125 < n) : (utn L fl n).1 125 = 1 := (utn_k h).trans (by decide +kernel)
theorem ws_391 : am_u (usn xs 391) 125 0 0 = usn xs 392 := usn_s (by decide +kernel)
theorem ws_392 : am_u (usn xs 392) 125 1 0 = usn xs 393 := usn_s (by decide +kernel)
theorem ws_393 : am_u (usn xs 393) 125 2 0 = usn xs 394 := usn_s (by decide +kernel)
theorem ws_394 : am_u (usn xs 394) 125 3 1 = usn xs 395 := usn_s (by decide +kernel)
theorem ws_395 : am_u (usn xs 395) 125 4 1 = usn xs 396 := usn_s (by decide +kernel)
theorem ws_396 : am_u (usn xs 396) 125 5 0 = usn xs 397 := usn_s (by decide +kernel)
theorem ws_397 : am_u (usn xs 397) 125 6 0 = usn xs 398 := usn_s (by decide +kernel)
theorem ws_398 : am_u (usn xs 398) 125 7 0 = usn xs 399 := usn_s (by decide +kernel)
theorem ws_399 : am_u (usn xs 399) 125 8 0 = usn xs 400 := usn_s (by decide +kernel)
theorem nw_126 : am_new 15 7 (usn xs 400) (urn 131) am_g0 (utn L fl 126) = (usn xs 400, urn 131, am_g0, utn L fl 127) := new_n (by decide +kernel) (by decide +kernel) (by decide +kernel) (by decide +kernel) (by decide +kernel) (by decide)
theorem wr_131 : am_u (urn 131) 125 9 (some 126) = urn 132 := urn_s (by decide +kernel)
theorem wr_132 : am_u (urn 132) 71 13 (some 125) = urn 133 := urn_s (by decide +kernel)
theorem qr_133_66_7 : urn 133 66 7 = some 71 := urn_at (by decide +kernel)
theorem nw_127 : am_new 1 10 (usn xs 400) (urn 133) am_g0 (utn L fl 127) = (usn xs 400, urn 133, am_g0, utn L fl 128) := new_n (by decide +kernel) (by decide +kernel) (by decide +kernel) (by decide +kernel) (by decide +kernel) (by decide)
theorem tk_127 {n : Nat} (h : 127 < n) : (utn L fl n).1 127 = 1 := (utn_k h).trans (by decide +kernel)
theorem ws_400 : am_u (usn xs 400) 127 0 0 = usn xs 401 := usn_s (by decide +kernel)
theorem ws_401 : am_u (usn xs 401) 127 1 0 = usn xs 402 := usn_s (by decide +kernel)
theorem ws_402 : am_u (usn xs 402) 127 2 0 = usn xs 403 := usn_s (by decide +kernel)
theorem ws_403 : am_u (usn xs 403) 127 3 1 = usn xs 404 := usn_s (by decide +kernel)
theorem ws_404 : am_u (usn xs 404) 127 4 1 = usn xs 405 := usn_s (by decide +kernel)
theorem ws_405 : am_u (usn xs 405) 127 5 0 = usn xs 406 := usn_s (by decide +kernel)
theorem ws_406 : am_u (usn xs 406) 127 6 0 = usn xs 407 := usn_s (by decide +kernel)
theorem ws_407 : am_u (usn xs 407) 127 7 0 = usn xs 408 := usn_s (by decide +kernel)
theorem ws_408 : am_u (usn xs 408) 127 8 0 = usn xs 409 := usn_s (by decide +kernel)
theorem nw_128 : am_new 15 7 (usn xs 409) (urn 133) am_g0 (utn L fl 128) = (usn xs 409, urn 133, am_g0, utn L fl 129) := new_n (by decide +kernel) (by decide +kernel) (by decide +kernel) (by decide +kernel) (by decide +kernel) (by decide)
theorem wr_133 : am_u (urn 133) 127 9 (some 128) = urn 134 := urn_s (by decide +kernel)
theorem wr_134 : am_u (urn 134) 71 14 (some 127) = urn 135 := urn_s (by decide +kernel)
theorem qr_135_66_7 : urn 135 66 7 = some 71 := urn_at (by decide +kernel)
theorem nw_129 : am_new 1 10 (usn xs 409) (urn 135) am_g0 (utn L fl 129) = (usn xs 409, urn 135, am_g0, utn L fl 130) := new_n (by decide +kernel) (by decide +kernel) (by decide +kernel) (by decide +kernel) (by decide +kernel) (by decide)
theorem tk_129 {n : Nat} (h : 129 < n) : (utn L fl n).1 129 = 1 := (utn_k h).trans (by decide +kernel)
theorem ws_409 : am_u (usn xs 409) 129 0 0 = usn xs 410 := usn_s (by decide +kernel)
theorem ws_410 : am_u (usn xs 410) 129 1 0 = usn xs 411 := usn_s (by decide +kernel)
theorem ws_411 : am_u (usn xs 411) 129 2 0 = usn xs 412 := usn_s (by decide +kernel)
theorem ws_412 : am_u (usn xs 412) 129 3 1 = usn xs 413 := usn_s (by decide +kernel)
theorem ws_413 : am_u (usn xs 413) 129 4 1 = usn xs 414 := usn_s (by decide +kernel)
theorem ws_414 : am_u (usn xs 414) 129 5 0 = usn xs 415 := usn_s (by decide +kernel)
theorem ws_415 : am_u (usn xs 415) 129 6 0 = usn xs 416 := usn_s (by decide +kernel)
theorem ws_416 : am_u (usn xs 416) 129 7 0 = usn xs 417 := usn_s (by decide +kernel)
theorem ws_417 : am_u (usn xs 417) 129 8 0 = usn xs 418 := usn_s (by decide +kernel)
theorem nw_130 : am_new 15 7 (usn xs 418) (urn 135) am_g0 (utn L fl 130) = (usn xs 418, urn 135, am_g0, utn L fl 131) := new_n (by decide +kernel) (by decide +kernel) (by decide +kernel) (by decide +kernel) (by decide +kernel) (by decide)
theorem wr_135 : am_u (urn 135) 129 9 (some 130) = urn 136 := urn_s (by decide +kernel)
theorem wr_136 : am_u (urn 136) 71 15 (some 129) = urn 137 := urn_s (by decide +kernel)
theorem qr_137_66_10 : urn 137 66 10 = some 74 := urn_at (by decide +kernel)
theorem qr_137_66_9 : urn 137 66 9 = some 72 := urn_at (by decide +kernel)
theorem tk_74 {n : Nat} (h : 74 < n) : (utn L fl n).1 74 = 21 := (utn_k h).trans (by decide +kernel)
theorem tl_74 {n : Nat} (h : 74 < n) : (utn L fl n).2.1 74 = 8 := (utn_l h).trans (by decide +kernel)
theorem wr_137 : am_u (urn 137) 74 0 (some 72) = urn 138 := urn_s (by decide +kernel)
theorem qr_138_66_10 : urn 138 66 10 = some 74 := urn_at (by decide +kernel)
theorem qr_138_66_9 : urn 138 66 9 = some 72 := urn_at (by decide +kernel)
theorem wr_138 : am_u (urn 138) 74 1 (some 72) = urn 139 := urn_s (by decide +kernel)
theorem qr_139_66_10 : urn 139 66 10 = some 74 := urn_at (by decide +kernel)
theorem qr_139_66_9 : urn 139 66 9 = some 72 := urn_at (by decide +kernel)
theorem wr_139 : am_u (urn 139) 74 2 (some 72) = urn 140 := urn_s (by decide +kernel)
theorem qr_140_66_10 : urn 140 66 10 = some 74 := urn_at (by decide +kernel)
theorem qr_140_66_9 : urn 140 66 9 = some 72 := urn_at (by decide +kernel)
theorem wr_140 : am_u (urn 140) 74 3 (some 72) = urn 141 := urn_s (by decide +kernel)
theorem qr_141_66_10 : urn 141 66 10 = some 74 := urn_at (by decide +kernel)
theorem qr_141_66_9 : urn 141 66 9 = some 72 := urn_at (by decide +kernel)
theorem wr_141 : am_u (urn 141) 74 4 (some 72) = urn 142 := urn_s (by decide +kernel)
theorem qr_142_66_10 : urn 142 66 10 = some 74 := urn_at (by decide +kernel)
theorem qr_142_66_9 : urn 142 66 9 = some 72 := urn_at (by decide +kernel)
theorem wr_142 : am_u (urn 142) 74 5 (some 72) = urn 143 := urn_s (by decide +kernel)
theorem qr_143_66_10 : urn 143 66 10 = some 74 := urn_at (by decide +kernel)
theorem qr_143_66_9 : urn 143 66 9 = some 72 := urn_at (by decide +kernel)
theorem wr_143 : am_u (urn 143) 74 6 (some 72) = urn 144 := urn_s (by decide +kernel)
theorem qr_144_66_10 : urn 144 66 10 = some 74 := urn_at (by decide +kernel)
theorem qr_144_66_9 : urn 144 66 9 = some 72 := urn_at (by decide +kernel)
theorem wr_144 : am_u (urn 144) 74 7 (some 72) = urn 145 := urn_s (by decide +kernel)
theorem wr_145 : am_u (urn 145) 0 1 (some 66) = urn 146 := urn_s (by decide +kernel)
theorem ws_418 : am_u (usn xs 418) 0 2 0 = usn xs 419 := usn_s (by decide +kernel)
theorem nw_131 : am_new 10 10 (usn xs 419) (urn 146) am_g0 (utn L fl 131) = (usn xs 419, urn 146, am_g0, utn L fl 132) := new_n (by decide +kernel) (by decide +kernel) (by decide +kernel) (by decide +kernel) (by decide +kernel) (by decide)
theorem nw_132 : am_new 14 240 (usn xs 419) (urn 146) am_g0 (utn L fl 132) = (usn xs 419, urn 146, am_g0, utn L fl 133) := new_n (by decide +kernel) (by decide +kernel) (by decide +kernel) (by decide +kernel) (by decide +kernel) (by decide)
theorem fc_240 : (240 : Int32).toNatClampNeg = 240 := by decide
theorem flt_240_0 : ((240 : Int32) < 0) = False := by decide
theorem tk_131 {n : Nat} (h : 131 < n) : (utn L fl n).1 131 = 10 := (utn_k h).trans (by decide +kernel)
theorem wr_146 : am_u (urn 146) 131 0 (some 132) = urn 147 := urn_s (by decide +kernel)
theorem ws_419 : am_u (usn xs 419) 131 1 0 = usn xs 420 := usn_s (by decide +kernel)
theorem ws_420 : am_u (usn xs 420) 131 2 0 = usn xs 421 := usn_s (by decide +kernel)
theorem ws_421 : am_u (usn xs 421) 131 3 0 = usn xs 422 := usn_s (by decide +kernel)
theorem ws_422 : am_u (usn xs 422) 131 4 0 = usn xs 423 := usn_s (by decide +kernel)
theorem ws_423 : am_u (usn xs 423) 131 5 0 = usn xs 424 := usn_s (by decide +kernel)
theorem nw_133 : am_new 15 240 (usn xs 424) (urn 147) am_g0 (utn L fl 133) = (usn xs 424, urn 147, am_g0, utn L fl 134) := new_n (by decide +kernel) (by decide +kernel) (by decide +kernel) (by decide +kernel) (by decide +kernel) (by decide)
theorem wr_147 : am_u (urn 147) 131 6 (some 133) = urn 148 := urn_s (by decide +kernel)
theorem ws_424 : am_u (usn xs 424) 131 7 0 = usn xs 425 := usn_s (by decide +kernel)
theorem nw_134 : am_new 19 10 (usn xs 425) (urn 148) am_g0 (utn L fl 134) = (usn xs 425, urn 148, am_g0, utn L fl 135) := new_n (by decide +kernel) (by decide +kernel) (by decide +kernel) (by decide +kernel) (by decide +kernel) (by decide)
theorem flt_10_0 : ((10 : Int32) < 0) = False := by decide
theorem wr_148 : am_u (urn 148) 131 8 (some 134) = urn 149 := urn_s (by decide +kernel)
theorem ws_425 : am_u (usn xs 425) 131 9 0 = usn xs 426 := usn_s (by decide +kernel)
theorem wr_149 : am_u (urn 149) 0 3 (some 131) = urn 150 := urn_s (by decide +kernel)
theorem nw_135 : am_new 8 6 (usn xs 426) (urn 150) am_g0 (utn L fl 135) = (usn xs 426, urn 150, am_g0, utn L fl 136) := new_n (by decide +kernel) (by decide +kernel) (by decide +kernel) (by decide +kernel) (by decide +kernel) (by decide)
theorem nw_136 : am_new 17 16 (usn xs 426) (urn 150) am_g0 (utn L fl 136) = (usn xs 426, urn 150, am_g0, utn L fl 137) := new_n (by decide +kernel) (by decide +kernel) (by decide +kernel) (by decide +kernel) (by decide +kernel) (by decide)
theorem tk_135 {n : Nat} (h : 135 < n) : (utn L fl n).1 135 = 8 := (utn_k h).trans (by decide +kernel)
theorem wr_150 : am_u (urn 150) 135 0 (some 136) = urn 151 := urn_s (by decide +kernel)
theorem nw_137 : am_new 15 16 (usn xs 426) (urn 151) am_g0 (utn L fl 137) = (usn xs 426, urn 151, am_g0, utn L fl 138) := new_n (by decide +kernel) (by decide +kernel) (by decide +kernel) (by decide +kernel) (by decide +kernel) (by decide)
theorem wr_151 : am_u (urn 151) 135 1 (some 137) = urn 152 := urn_s (by decide +kernel)
theorem nw_138 : am_new 15 16 (usn xs 426) (urn 152) am_g0 (utn L fl 138) = (usn xs 426, urn 152, am_g0, utn L fl 139) := new_n (by decide +kernel) (by decide +kernel) (by decide +kernel) (by decide +kernel) (by decide +kernel) (by decide)
theorem wr_152 : am_u (urn 152) 135 2 (some 138) = urn 153 := urn_s (by decide +kernel)
theorem nw_139 : am_new 15 16 (usn xs 426) (urn 153) am_g0 (utn L fl 139) = (usn xs 426, urn 153, am_g0, utn L fl 140) := new_n (by decide +kernel) (by decide +kernel) (by decide +kernel) (by decide +kernel) (by decide +kernel) (by decide)
theorem wr_153 : am_u (urn 153) 135 3 (some 139) = urn 154 := urn_s (by decide +kernel)
theorem ws_426 : am_u (usn xs 426) 135 4 0 = usn xs 427 := usn_s (by decide +kernel)
theorem ws_427 : am_u (usn xs 427) 135 5 0 = usn xs 428 := usn_s (by decide +kernel)
theorem wr_154 : am_u (urn 154) 0 4 (some 135) = urn 155 := urn_s (by decide +kernel)
theorem nw_140 : am_new 6 4 (usn xs 428) (urn 155) am_g0 (utn L fl 140) = (usn xs 428, urn 155, am_g0, utn L fl 141) := new_n (by decide +kernel) (by decide +kernel) (by decide +kernel) (by decide +kernel) (by decide +kernel) (by decide)
theorem nw_141 : am_new 15 20 (usn xs 428) (urn 155) am_g0 (utn L fl 141) = (usn xs 428, urn 155, am_g0, utn L fl 142) := new_n (by decide +kernel) (by decide +kernel) (by decide +kernel) (by decide +kernel) (by decide +kernel) (by decide)
theorem fc_20 : (20 : Int32).toNatClampNeg = 20 := by decide
theorem tk_140 {n : Nat} (h : 140 < n) : (utn L fl n).1 140 = 6 := (utn_k h).trans (by decide +kernel)
theorem wr_155 : am_u (urn 155) 140 0 (some 141) = urn 156 := urn_s (by decide +kernel)
theorem nw_142 : am_new 17 20 (usn xs 428) (urn 156) am_g0 (utn L fl 142) = (usn xs 428, urn 156, am_g0, utn L fl 143) := new_n (by decide +kernel) (by decide +kernel) (by decide +kernel) (by decide +kernel) (by decide +kernel) (by decide)
theorem wr_156 : am_u (urn 156) 140 1 (some 142) = urn 157 := urn_s (by decide +kernel)
theorem ws_428 : am_u (usn xs 428) 140 2 0 = usn xs 429 := usn_s (by decide +kernel)
theorem ws_429 : am_u (usn xs 429) 140 3 0 = usn xs 430 := usn_s (by decide +kernel)
theorem wr_157 : am_u (urn 157) 0 5 (some 140) = urn 158 := urn_s (by decide +kernel)
theorem nw_143 : am_new 4 4 (usn xs 430) (urn 158) am_g0 (utn L fl 143) = (usn xs 430, urn 158, am_g0, utn L fl 144) := new_n (by decide +kernel) (by decide +kernel) (by decide +kernel) (by decide +kernel) (by decide +kernel) (by decide)
theorem tk_143 {n : Nat} (h : 143 < n) : (utn L fl n).1 143 = 4 := (utn_k h).trans (by decide +kernel)
theorem ws_430 : am_u (usn xs 430) 143 3 0 = usn xs 431 := usn_s (by decide +kernel)
theorem ws_431 : am_u (usn xs 431) 143 0 8 = usn xs 432 := usn_s (by decide +kernel)
theorem flt_0_2 : ((0 : Int32) < 2) = True := by decide
theorem fle_0_2 : ((0 : Int32) ≤ 2) = True := by decide
theorem flt_2_0 : ((2 : Int32) < 0) = False := by decide
theorem fle_2_0 : ((2 : Int32) ≤ 0) = False := by decide
theorem fe_0_2 : ((0 : Int32) = 2) = False := by decide
theorem ws_432 : am_u (usn xs 432) 143 1 2 = usn xs 433 := usn_s (by decide +kernel)
theorem qs_433_143_0 : usn xs 433 143 0 = 8 := (usn_at (by decide)).trans (by decide +kernel)
theorem qs_433_143_1 : usn xs 433 143 1 = 2 := (usn_at (by decide)).trans (by decide +kernel)
theorem fm_8_2 : (8 : Int32) * 2 = 16 := by decide
theorem nw_144 : am_new 15 16 (usn xs 433) (urn 158) am_g0 (utn L fl 144) = (usn xs 433, urn 158, am_g0, utn L fl 145) := new_n (by decide +kernel) (by decide +kernel) (by decide +kernel) (by decide +kernel) (by decide +kernel) (by decide)
theorem wr_158 : am_u (urn 158) 143 2 (some 144) = urn 159 := urn_s (by decide +kernel)
theorem wr_159 : am_u (urn 159) 0 6 (some 143) = urn 160 := urn_s (by decide +kernel)
theorem nw_145 : am_new 2 6 (usn xs 433) (urn 160) am_g0 (utn L fl 145) = (usn xs 433, urn 160, am_g0, utn L fl 146) := new_n (by decide +kernel) (by decide +kernel) (by decide +kernel) (by decide +kernel) (by decide +kernel) (by decide)
theorem nw_146 : am_new 15 4 (usn xs 433) (urn 160) am_g0 (utn L fl 146) = (usn xs 433, urn 160, am_g0, utn L fl 147) := new_n (by decide +kernel) (by decide +kernel) (by decide +kernel) (by decide +kernel) (by decide +kernel) (by decide)
theorem tk_145 {n : Nat} (h : 145 < n) : (utn L fl n).1 145 = 2 := (utn_k h).trans (by decide +kernel)
theorem wr_160 : am_u (urn 160) 145 0 (some 146) = urn 161 := urn_s (by decide +kernel)
theorem nw_147 : am_new 15 4 (usn xs 433) (urn 161) am_g0 (utn L fl 147) = (usn xs 433, urn 161, am_g0, utn L fl 148) := new_n (by decide +kernel) (by decide +kernel) (by decide +kernel) (by decide +kernel) (by decide +kernel) (by decide)
theorem wr_161 : am_u (urn 161) 145 1 (some 147) = urn 162 := urn_s (by decide +kernel)
theorem fc_40 : (40 : Int32).toNatClampNeg = 40 := by decide
theorem flt_40_0 : ((40 : Int32) < 0) = False := by decide
theorem mna_x : am_mna 4 40 (usn xs 433) (urn 162) am_g0 (utn L fl 148) = (usn xs 433, urn 166, am_g0, utn L fl 153) := mna_n (by decide +kernel) (by decide +kernel) (by decide +kernel) (by decide +kernel) (by decide +kernel)
theorem wr_166 : am_u (urn 166) 145 2 (some 148) = urn 167 := urn_s (by decide +kernel)
theorem nw_153 : am_new 15 4 (usn xs 433) (urn 167) am_g0 (utn L fl 153) = (usn xs 433, urn 167, am_g0, utn L fl 154) := new_n (by decide +kernel) (by decide +kernel) (by decide +kernel) (by decide +kernel) (by decide +kernel) (by decide)
theorem wr_167 : am_u (urn 167) 145 3 (some 153) = urn 168 := urn_s (by decide +kernel)
theorem nw_154 : am_new 15 4 (usn xs 433) (urn 168) am_g0 (utn L fl 154) = (usn xs 433, urn 168, am_g0, utn L fl 155) := new_n (by decide +kernel) (by decide +kernel) (by decide +kernel) (by decide +kernel) (by decide +kernel) (by decide)
theorem wr_168 : am_u (urn 168) 145 4 (some 154) = urn 169 := urn_s (by decide +kernel)
theorem nw_155 : am_new 15 4 (usn xs 433) (urn 169) am_g0 (utn L fl 155) = (usn xs 433, urn 169, am_g0, utn L fl 156) := new_n (by decide +kernel) (by decide +kernel) (by decide +kernel) (by decide +kernel) (by decide +kernel) (by decide)
theorem wr_169 : am_u (urn 169) 145 5 (some 155) = urn 170 := urn_s (by decide +kernel)
theorem qr_170_145_0 : urn 170 145 0 = some 146 := urn_at (by decide +kernel)
theorem tk_146 {n : Nat} (h : 146 < n) : (utn L fl n).1 146 = 15 := (utn_k h).trans (by decide +kernel)
theorem tl_146 {n : Nat} (h : 146 < n) : (utn L fl n).2.1 146 = 4 := (utn_l h).trans (by decide +kernel)
theorem qr_170_145_3 : urn 170 145 3 = some 153 := urn_at (by decide +kernel)
theorem tk_153 {n : Nat} (h : 153 < n) : (utn L fl n).1 153 = 15 := (utn_k h).trans (by decide +kernel)
theorem tl_153 {n : Nat} (h : 153 < n) : (utn L fl n).2.1 153 = 4 := (utn_l h).trans (by decide +kernel)
theorem wr_170 : am_u (urn 170) 0 7 (some 145) = urn 171 := urn_s (by decide +kernel)
theorem nw_156 : am_new 0 7 (usn xs 441) (urn 171) am_g0 (utn L fl 156) = (usn xs 441, urn 171, am_g0, utn L fl 157) := new_n (by decide +kernel) (by decide +kernel) (by decide +kernel) (by decide +kernel) (by decide +kernel) (by decide)
theorem tk_156 {n : Nat} (h : 156 < n) : (utn L fl n).1 156 = 0 := (utn_k h).trans (by decide +kernel)
theorem ws_441 : am_u (usn xs 441) 156 0 0 = usn xs 442 := usn_s (by decide +kernel)
theorem ws_442 : am_u (usn xs 442) 156 1 0 = usn xs 443 := usn_s (by decide +kernel)
theorem ws_443 : am_u (usn xs 443) 156 2 0 = usn xs 444 := usn_s (by decide +kernel)
theorem ws_444 : am_u (usn xs 444) 156 3 0 = usn xs 445 := usn_s (by decide +kernel)
theorem ws_445 : am_u (usn xs 445) 156 4 0 = usn xs 446 := usn_s (by decide +kernel)
theorem nw_157 : am_new 15 30 (usn xs 446) (urn 171) am_g0 (utn L fl 157) = (usn xs 446, urn 171, am_g0, utn L fl 158) := new_n (by decide +kernel) (by decide +kernel) (by decide +kernel) (by decide +kernel) (by decide +kernel) (by decide)
theorem fc_30 : (30 : Int32).toNatClampNeg = 30 := by decide
theorem flt_30_0 : ((30 : Int32) < 0) = False := by decide
theorem wr_171 : am_u (urn 171) 156 5 (some 157) = urn 172 := urn_s (by decide +kernel)
theorem ws_446 : am_u (usn xs 446) 156 6 0 = usn xs 447 := usn_s (by decide +kernel)
theorem wr_172 : am_u (urn 172) 0 8 (some 156) = urn 173 := urn_s (by decide +kernel)
theorem nw_158 : am_new 15 369 (usn xs 447) (urn 173) am_g0 (utn L fl 158) = (usn xs 447, urn 173, am_g0, utn L fl 159) := new_n (by decide +kernel) (by decide +kernel) (by decide +kernel) (by decide +kernel) (by decide +kernel) (by decide)
theorem fc_369 : (369 : Int32).toNatClampNeg = 369 := by decide
theorem flt_369_0 : ((369 : Int32) < 0) = False := by decide
theorem wr_173 : am_u (urn 173) 0 9 (some 158) = urn 174 := urn_s (by decide +kernel)
theorem nw_159 : am_new 15 3 (usn xs 447) (urn 174) am_g0 (utn L fl 159) = (usn xs 447, urn 174, am_g0, utn L fl 160) := new_n (by decide +kernel) (by decide +kernel) (by decide +kernel) (by decide +kernel) (by decide +kernel) (by decide)
theorem wr_174 : am_u (urn 174) 0 10 (some 159) = urn 175 := urn_s (by decide +kernel)
theorem nw_160 : am_new 12 75 (usn xs 447) (urn 175) am_g0 (utn L fl 160) = (usn xs 447, urn 175, am_g0, utn L fl 161) := new_n (by decide +kernel) (by decide +kernel) (by decide +kernel) (by decide +kernel) (by decide +kernel) (by decide)
theorem nw_161 : am_new 15 9 (usn xs 447) (urn 175) am_g0 (utn L fl 161) = (usn xs 447, urn 175, am_g0, utn L fl 162) := new_n (by decide +kernel) (by decide +kernel) (by decide +kernel) (by decide +kernel) (by decide +kernel) (by decide)
theorem flt_9_0 : ((9 : Int32) < 0) = False := by decide
theorem tk_160 {n : Nat} (h : 160 < n) : (utn L fl n).1 160 = 12 := (utn_k h).trans (by decide +kernel)
theorem wr_175 : am_u (urn 175) 160 0 (some 161) = urn 176 := urn_s (by decide +kernel)
theorem nw_162 : am_new 15 3 (usn xs 447) (urn 176) am_g0 (utn L fl 162) = (usn xs 447, urn 176, am_g0, utn L fl 163) := new_n (by decide +kernel) (by decide +kernel) (by decide +kernel) (by decide +kernel) (by decide +kernel) (by decide)
theorem wr_176 : am_u (urn 176) 160 1 (some 162) = urn 177 := urn_s (by decide +kernel)
theorem nw_163 : am_new 15 12 (usn xs 447) (urn 177) am_g0 (utn L fl 163) = (usn xs 447, urn 177, am_g0, utn L fl 164) := new_n (by decide +kernel) (by decide +kernel) (by decide +kernel) (by decide +kernel) (by decide +kernel) (by decide)
theorem wr_177 : am_u (urn 177) 160 2 (some 163) = urn 178 := urn_s (by decide +kernel)
theorem nw_164 : am_new 15 5 (usn xs 447) (urn 178) am_g0 (utn L fl 164) = (usn xs 447, urn 178, am_g0, utn L fl 165) := new_n (by decide +kernel) (by decide +kernel) (by decide +kernel) (by decide +kernel) (by decide +kernel) (by decide)
theorem wr_178 : am_u (urn 178) 160 3 (some 164) = urn 179 := urn_s (by decide +kernel)
theorem nw_165 : am_new 15 24 (usn xs 447) (urn 179) am_g0 (utn L fl 165) = (usn xs 447, urn 179, am_g0, utn L fl 166) := new_n (by decide +kernel) (by decide +kernel) (by decide +kernel) (by decide +kernel) (by decide +kernel) (by decide)
theorem fc_24 : (24 : Int32).toNatClampNeg = 24 := by decide
theorem flt_24_0 : ((24 : Int32) < 0) = False := by decide
theorem wr_179 : am_u (urn 179) 160 4 (some 165) = urn 180 := urn_s (by decide +kernel)
theorem nw_166 : am_new 15 8 (usn xs 447) (urn 180) am_g0 (utn L fl 166) = (usn xs 447, urn 180, am_g0, utn L fl 167) := new_n (by decide +kernel) (by decide +kernel) (by decide +kernel) (by decide +kernel) (by decide +kernel) (by decide)
theorem wr_180 : am_u (urn 180) 160 5 (some 166) = urn 181 := urn_s (by decide +kernel)
theorem nw_167 : am_new 15 8 (usn xs 447) (urn 181) am_g0 (utn L fl 167) = (usn xs 447, urn 181, am_g0, utn L fl 168) := new_n (by decide +kernel) (by decide +kernel) (by decide +kernel) (by decide +kernel) (by decide +kernel) (by decide)
theorem wr_181 : am_u (urn 181) 160 6 (some 167) = urn 182 := urn_s (by decide +kernel)
theorem nw_168 : am_new 15 8 (usn xs 447) (urn 182) am_g0 (utn L fl 168) = (usn xs 447, urn 182, am_g0, utn L fl 169) := new_n (by decide +kernel) (by decide +kernel) (by decide +kernel) (by decide +kernel) (by decide +kernel) (by decide)
theorem wr_182 : am_u (urn 182) 160 7 (some 168) = urn 183 := urn_s (by decide +kernel)
theorem nw_169 : am_new 15 8 (usn xs 447) (urn 183) am_g0 (utn L fl 169) = (usn xs 447, urn 183, am_g0, utn L fl 170) := new_n (by decide +kernel) (by decide +kernel) (by decide +kernel) (by decide +kernel) (by decide +kernel) (by decide)
theorem wr_183 : am_u (urn 183) 160 8 (some 169) = urn 184 := urn_s (by decide +kernel)
theorem nw_170 : am_new 15 16 (usn xs 447) (urn 184) am_g0 (utn L fl 170) = (usn xs 447, urn 184, am_g0, utn L fl 171) := new_n (by decide +kernel) (by decide +kernel) (by decide +kernel) (by decide +kernel) (by decide +kernel) (by decide)
theorem wr_184 : am_u (urn 184) 160 9 (some 170) = urn 185 := urn_s (by decide +kernel)
theorem nw_171 : am_new 15 16 (usn xs 447) (urn 185) am_g0 (utn L fl 171) = (usn xs 447, urn 185, am_g0, utn L fl 172) := new_n (by decide +kernel) (by decide +kernel) (by decide +kernel) (by decide +kernel) (by decide +kernel) (by decide)
theorem wr_185 : am_u (urn 185) 160 10 (some 171) = urn 186 := urn_s (by decide +kernel)
theorem nw_172 : am_new 15 16 (usn xs 447) (urn 186) am_g0 (utn L fl 172) = (usn xs 447, urn 186, am_g0, utn L fl 173) := new_n (by decide +kernel) (by decide +kernel) (by decide +kernel) (by decide +kernel) (by decide +kernel) (by decide)
theorem wr_186 : am_u (urn 186) 160 11 (some 172) = urn 187 := urn_s (by decide +kernel)
theorem nw_173 : am_new 15 16 (usn xs 447) (urn 187) am_g0 (utn L fl 173) = (usn xs 447, urn 187, am_g0, utn L fl 174) := new_n (by decide +kernel) (by decide +kernel) (by decide +kernel) (by decide +kernel) (by decide +kernel) (by decide)
theorem wr_187 : am_u (urn 187) 160 12 (some 173) = urn 188 := urn_s (by decide +kernel)
theorem nw_174 : am_new 15 16 (usn xs 447) (urn 188) am_g0 (utn L fl 174) = (usn xs 447, urn 188, am_g0, utn L fl 175) := new_n (by decide +kernel) (by decide +kernel) (by decide +kernel) (by decide +kernel) (by decide +kernel) (by decide)
theorem wr_188 : am_u (urn 188) 160 13 (some 174) = urn 189 := urn_s (by decide +kernel)
theorem nw_175 : am_new 15 16 (usn xs 447) (urn 189) am_g0 (utn L fl 175) = (usn xs 447, urn 189, am_g0, utn L fl 176) := new_n (by decide +kernel) (by decide +kernel) (by decide +kernel) (by decide +kernel) (by decide +kernel) (by decide)
theorem wr_189 : am_u (urn 189) 160 14 (some 175) = urn 190 := urn_s (by decide +kernel)
theorem nw_176 : am_new 15 16 (usn xs 447) (urn 190) am_g0 (utn L fl 176) = (usn xs 447, urn 190, am_g0, utn L fl 177) := new_n (by decide +kernel) (by decide +kernel) (by decide +kernel) (by decide +kernel) (by decide +kernel) (by decide)
theorem wr_190 : am_u (urn 190) 160 15 (some 176) = urn 191 := urn_s (by decide +kernel)
theorem nw_177 : am_new 15 16 (usn xs 447) (urn 191) am_g0 (utn L fl 177) = (usn xs 447, urn 191, am_g0, utn L fl 178) := new_n (by decide +kernel) (by decide +kernel) (by decide +kernel) (by decide +kernel) (by decide +kernel) (by decide)
theorem wr_191 : am_u (urn 191) 160 16 (some 177) = urn 192 := urn_s (by decide +kernel)
theorem nw_178 : am_new 15 16 (usn xs 447) (urn 192) am_g0 (utn L fl 178) = (usn xs 447, urn 192, am_g0, utn L fl 179) := new_n (by decide +kernel) (by decide +kernel) (by decide +kernel) (by decide +kernel) (by decide +kernel) (by decide)
theorem wr_192 : am_u (urn 192) 160 17 (some 178) = urn 193 := urn_s (by decide +kernel)
theorem nw_179 : am_new 15 112 (usn xs 447) (urn 193) am_g0 (utn L fl 179) = (usn xs 447, urn 193, am_g0, utn L fl 180) := new_n (by decide +kernel) (by decide +kernel) (by decide +kernel) (by decide +kernel) (by decide +kernel) (by decide)
theorem fc_112 : (112 : Int32).toNatClampNeg = 112 := by decide
theorem flt_112_0 : ((112 : Int32) < 0) = False := by decide
theorem wr_193 : am_u (urn 193) 160 18 (some 179) = urn 194 := urn_s (by decide +kernel)
theorem nw_180 : am_new 15 9 (usn xs 447) (urn 194) am_g0 (utn L fl 180) = (usn xs 447, urn 194, am_g0, utn L fl 181) := new_n (by decide +kernel) (by decide +kernel) (by decide +kernel) (by decide +kernel) (by decide +kernel) (by decide)
theorem wr_194 : am_u (urn 194) 160 19 (some 180) = urn 195 := urn_s (by decide +kernel)
theorem nw_181 : am_new 15 9 (usn xs 447) (urn 195) am_g0 (utn L fl 181) = (usn xs 447, urn 195, am_g0, utn L fl 182) := new_n (by decide +kernel) (by decide +kernel) (by decide +kernel) (by decide +kernel) (by decide +kernel) (by decide)
theorem wr_195 : am_u (urn 195) 160 20 (some 181) = urn 196 := urn_s (by decide +kernel)
theorem nw_182 : am_new 15 90 (usn xs 447) (urn 196) am_g0 (utn L fl 182) = (usn xs 447, urn 196, am_g0, utn L fl 183) := new_n (by decide +kernel) (by decide +kernel) (by decide +kernel) (by decide +kernel) (by decide +kernel) (by decide)
theorem fc_90 : (90 : Int32).toNatClampNeg = 90 := by decide
theorem flt_90_0 : ((90 : Int32) < 0) = False := by decide
theorem wr_196 : am_u (urn 196) 160 21 (some 182) = urn 197 := urn_s (by decide +kernel)
theorem nw_183 : am_new 15 90 (usn xs 447) (urn 197) am_g0 (utn L fl 183) = (usn xs 447, urn 197, am_g0, utn L fl 184) := new_n (by decide +kernel) (by decide +kernel) (by decide +kernel) (by decide +kernel) (by decide +kernel) (by decide)
theorem wr_197 : am_u (urn 197) 160 22 (some 183) = urn 198 := urn_s (by decide +kernel)
theorem nw_184 : am_new 15 90 (usn xs 447) (urn 198) am_g0 (utn L fl 184) = (usn xs 447, urn 198, am_g0, utn L fl 185) := new_n (by decide +kernel) (by decide +kernel) (by decide +kernel) (by decide +kernel) (by decide +kernel) (by decide)
theorem wr_198 : am_u (urn 198) 160 23 (some 184) = urn 199 := urn_s (by decide +kernel)
theorem nw_185 : am_new 15 90 (usn xs 447) (urn 199) am_g0 (utn L fl 185) = (usn xs 447, urn 199, am_g0, utn L fl 186) := new_n (by decide +kernel) (by decide +kernel) (by decide +kernel) (by decide +kernel) (by decide +kernel) (by decide)
theorem wr_199 : am_u (urn 199) 160 24 (some 185) = urn 200 := urn_s (by decide +kernel)
theorem nw_186 : am_new 15 90 (usn xs 447) (urn 200) am_g0 (utn L fl 186) = (usn xs 447, urn 200, am_g0, utn L fl 187) := new_n (by decide +kernel) (by decide +kernel) (by decide +kernel) (by decide +kernel) (by decide +kernel) (by decide)
theorem wr_200 : am_u (urn 200) 160 25 (some 186) = urn 201 := urn_s (by decide +kernel)
theorem nw_187 : am_new 15 2304 (usn xs 447) (urn 201) am_g0 (utn L fl 187) = (usn xs 447, urn 201, am_g0, utn L fl 188) := new_n (by decide +kernel) (by decide +kernel) (by decide +kernel) (by decide +kernel) (by decide +kernel) (by decide)
theorem fc_2304 : (2304 : Int32).toNatClampNeg = 2304 := by decide
theorem flt_2304_0 : ((2304 : Int32) < 0) = False := by decide
theorem wr_201 : am_u (urn 201) 160 26 (some 187) = urn 202 := urn_s (by decide +kernel)
theorem nw_188 : am_new 15 6 (usn xs 447) (urn 202) am_g0 (utn L fl 188) = (usn xs 447, urn 202, am_g0, utn L fl 189) := new_n (by decide +kernel) (by decide +kernel) (by decide +kernel) (by decide +kernel) (by decide +kernel) (by decide)
theorem wr_202 : am_u (urn 202) 160 27 (some 188) = urn 203 := urn_s (by decide +kernel)
theorem nw_189 : am_new 15 6 (usn xs 447) (urn 203) am_g0 (utn L fl 189) = (usn xs 447, urn 203, am_g0, utn L fl 190) := new_n (by decide +kernel) (by decide +kernel) (by decide +kernel) (by decide +kernel) (by decide +kernel) (by decide)
theorem wr_203 : am_u (urn 203) 160 28 (some 189) = urn 204 := urn_s (by decide +kernel)
theorem nw_190 : am_new 15 6 (usn xs 447) (urn 204) am_g0 (utn L fl 190) = (usn xs 447, urn 204, am_g0, utn L fl 191) := new_n (by decide +kernel) (by decide +kernel) (by decide +kernel) (by decide +kernel) (by decide +kernel) (by decide)
theorem wr_204 : am_u (urn 204) 160 29 (some 190) = urn 205 := urn_s (by decide +kernel)
theorem nw_191 : am_new 15 20 (usn xs 447) (urn 205) am_g0 (utn L fl 191) = (usn xs 447, urn 205, am_g0, utn L fl 192) := new_n (by decide +kernel) (by decide +kernel) (by decide +kernel) (by decide +kernel) (by decide +kernel) (by decide)
theorem wr_205 : am_u (urn 205) 160 30 (some 191) = urn 206 := urn_s (by decide +kernel)
theorem nw_192 : am_new 15 20 (usn xs 447) (urn 206) am_g0 (utn L fl 192) = (usn xs 447, urn 206, am_g0, utn L fl 193) := new_n (by decide +kernel) (by decide +kernel) (by decide +kernel) (by decide +kernel) (by decide +kernel) (by decide)
theorem wr_206 : am_u (urn 206) 160 31 (some 192) = urn 207 := urn_s (by decide +kernel)
theorem nw_193 : am_new 15 20 (usn xs 447) (urn 207) am_g0 (utn L fl 193) = (usn xs 447, urn 207, am_g0, utn L fl 194) := new_n (by decide +kernel) (by decide +kernel) (by decide +kernel) (by decide +kernel) (by decide +kernel) (by decide)
theorem wr_207 : am_u (urn 207) 160 32 (some 193) = urn 208 := urn_s (by decide +kernel)
theorem nw_194 : am_new 15 20 (usn xs 447) (urn 208) am_g0 (utn L fl 194) = (usn xs 447, urn 208, am_g0, utn L fl 195) := new_n (by decide +kernel) (by decide +kernel) (by decide +kernel) (by decide +kernel) (by decide +kernel) (by decide)
theorem wr_208 : am_u (urn 208) 160 33 (some 194) = urn 209 := urn_s (by decide +kernel)
theorem nw_195 : am_new 15 20 (usn xs 447) (urn 209) am_g0 (utn L fl 195) = (usn xs 447, urn 209, am_g0, utn L fl 196) := new_n (by decide +kernel) (by decide +kernel) (by decide +kernel) (by decide +kernel) (by decide +kernel) (by decide)
theorem wr_209 : am_u (urn 209) 160 34 (some 195) = urn 210 := urn_s (by decide +kernel)
theorem nw_196 : am_new 15 16 (usn xs 447) (urn 210) am_g0 (utn L fl 196) = (usn xs 447, urn 210, am_g0, utn L fl 197) := new_n (by decide +kernel) (by decide +kernel) (by decide +kernel) (by decide +kernel) (by decide +kernel) (by decide)
theorem wr_210 : am_u (urn 210) 160 35 (some 196) = urn 211 := urn_s (by decide +kernel)
theorem nw_197 : am_new 15 16 (usn xs 447) (urn 211) am_g0 (utn L fl 197) = (usn xs 447, urn 211, am_g0, utn L fl 198) := new_n (by decide +kernel) (by decide +kernel) (by decide +kernel) (by decide +kernel) (by decide +kernel) (by decide)
theorem wr_211 : am_u (urn 211) 160 36 (some 197) = urn 212 := urn_s (by decide +kernel)
theorem nw_198 : am_new 15 16 (usn xs 447) (urn 212) am_g0 (utn L fl 198) = (usn xs 447, urn 212, am_g0, utn L fl 199) := new_n (by decide +kernel) (by decide +kernel) (by decide +kernel) (by decide +kernel) (by decide +kernel) (by decide)
theorem wr_212 : am_u (urn 212) 160 37 (some 198) = urn 213 := urn_s (by decide +kernel)
theorem nw_199 : am_new 15 24 (usn xs 447) (urn 213) am_g0 (utn L fl 199) = (usn xs 447, urn 213, am_g0, utn L fl 200) := new_n (by decide +kernel) (by decide +kernel) (by decide +kernel) (by decide +kernel) (by decide +kernel) (by decide)
theorem wr_213 : am_u (urn 213) 160 38 (some 199) = urn 214 := urn_s (by decide +kernel)
theorem nw_200 : am_new 15 8 (usn xs 447) (urn 214) am_g0 (utn L fl 200) = (usn xs 447, urn 214, am_g0, utn L fl 201) := new_n (by decide +kernel) (by decide +kernel) (by decide +kernel) (by decide +kernel) (by decide +kernel) (by decide)
theorem wr_214 : am_u (urn 214) 160 39 (some 200) = urn 215 := urn_s (by decide +kernel)
theorem nw_201 : am_new 22 40 (usn xs 447) (urn 215) am_g0 (utn L fl 201) = (usn xs 447, urn 215, am_g0, utn L fl 202) := new_n (by decide +kernel) (by decide +kernel) (by decide +kernel) (by decide +kernel) (by decide +kernel) (by decide)
theorem qr_215_160_0 : urn 215 160 0 = some 161 := urn_at (by decide +kernel)
theorem tk_201 {n : Nat} (h : 201 < n) : (utn L fl n).1 201 = 22 := (utn_k h).trans (by decide +kernel)
theorem tl_201 {n : Nat} (h : 201 < n) : (utn L fl n).2.1 201 = 40 := (utn_l h).trans (by decide +kernel)
theorem fi_0_40 : am_inb (0 : Int32) 40 = true := by decide
theorem wr_215 : am_u (urn 215) 201 0 (some 161) = urn 216 := urn_s (by decide +kernel)
theorem tk_161 {n : Nat} (h : 161 < n) : (utn L fl n).1 161 = 15 := (utn_k h).trans (by decide +kernel)
theorem fk_22 : am_elK 22 = 15 := by decide
theorem qr_216_160_1 : urn 216 160 1 = some 162 := urn_at (by decide +kernel)
theorem fi_1_40 : am_inb (1 : Int32) 40 = true := by decide
theorem wr_216 : am_u (urn 216) 201 1 (some 162) = urn 217 := urn_s (by decide +kernel)
theorem tk_162 {n : Nat} (h : 162 < n) : (utn L fl n).1 162 = 15 := (utn_k h).trans (by decide +kernel)
theorem qr_217_160_2 : urn 217 160 2 = some 163 := urn_at (by decide +kernel)
theorem fi_2_40 : am_inb (2 : Int32) 40 = true := by decide
theorem wr_217 : am_u (urn 217) 201 2 (some 163) = urn 218 := urn_s (by decide +kernel)
theorem tk_163 {n : Nat} (h : 163 < n) : (utn L fl n).1 163 = 15 := (utn_k h).trans (by decide +kernel)
theorem qr_218_160_3 : urn 218 160 3 = some 164 := urn_at (by decide +kernel)
theorem fi_3_40 : am_inb (3 : Int32) 40 = true := by decide
theorem wr_218 : am_u (urn 218) 201 3 (some 164) = urn 219 := urn_s (by decide +kernel)
theorem tk_164 {n : Nat} (h : 164 < n) : (utn L fl n).1 164 = 15 := (utn_k h).trans (by decide +kernel)
theorem qr_219_160_4 : urn 219 160 4 = some 165 := urn_at (by decide +kernel)
theorem fi_4_40 : am_inb (4 : Int32) 40 = true := by decide
theorem wr_219 : am_u (urn 219) 201 4 (some 165) = urn 220 := urn_s (by decide +kernel)
theorem tk_165 {n : Nat} (h : 165 < n) : (utn L fl n).1 165 = 15 := (utn_k h).trans (by decide +kernel)
theorem qr_220_160_5 : urn 220 160 5 = some 166 := urn_at (by decide +kernel)
theorem fi_5_40 : am_inb (5 : Int32) 40 = true := by decide
theorem wr_220 : am_u (urn 220) 201 5 (some 166) = urn 221 := urn_s (by decide +kernel)
theorem tk_166 {n : Nat} (h : 166 < n) : (utn L fl n).1 166 = 15 := (utn_k h).trans (by decide +kernel)
theorem qr_221_160_6 : urn 221 160 6 = some 167 := urn_at (by decide +kernel)
theorem fi_6_40 : am_inb (6 : Int32) 40 = true := by decide
theorem wr_221 : am_u (urn 221) 201 6 (some 167) = urn 222 := urn_s (by decide +kernel)
theorem tk_167 {n : Nat} (h : 167 < n) : (utn L fl n).1 167 = 15 := (utn_k h).trans (by decide +kernel)
theorem qr_222_160_7 : urn 222 160 7 = some 168 := urn_at (by decide +kernel)
theorem fi_7_40 : am_inb (7 : Int32) 40 = true := by decide
theorem wr_222 : am_u (urn 222) 201 7 (some 168) = urn 223 := urn_s (by decide +kernel)
theorem tk_168 {n : Nat} (h : 168 < n) : (utn L fl n).1 168 = 15 := (utn_k h).trans (by decide +kernel)
theorem qr_223_160_8 : urn 223 160 8 = some 169 := urn_at (by decide +kernel)
theorem fi_8_40 : am_inb (8 : Int32) 40 = true := by decide
theorem wr_223 : am_u (urn 223) 201 8 (some 169) = urn 224 := urn_s (by decide +kernel)
theorem tk_169 {n : Nat} (h : 169 < n) : (utn L fl n).1 169 = 15 := (utn_k h).trans (by decide +kernel)
theorem qr_224_160_9 : urn 224 160 9 = some 170 := urn_at (by decide +kernel)
theorem fi_9_40 : am_inb (9 : Int32) 40 = true := by decide
theorem wr_224 : am_u (urn 224) 201 9 (some 170) = urn 225 := urn_s (by decide +kernel)
theorem tk_170 {n : Nat} (h : 170 < n) : (utn L fl n).1 170 = 15 := (utn_k h).trans (by decide +kernel)
theorem qr_225_160_10 : urn 225 160 10 = some 171 := urn_at (by decide +kernel)
theorem fi_10_40 : am_inb (10 : Int32) 40 = true := by decide
theorem wr_225 : am_u (urn 225) 201 10 (some 171) = urn 226 := urn_s (by decide +kernel)
theorem tk_171 {n : Nat} (h : 171 < n) : (utn L fl n).1 171 = 15 := (utn_k h).trans (by decide +kernel)
theorem qr_226_160_11 : urn 226 160 11 = some 172 := urn_at (by decide +kernel)
theorem fi_11_40 : am_inb (11 : Int32) 40 = true := by decide
theorem wr_226 : am_u (urn 226) 201 11 (some 172) = urn 227 := urn_s (by decide +kernel)
theorem tk_172 {n : Nat} (h : 172 < n) : (utn L fl n).1 172 = 15 := (utn_k h).trans (by decide +kernel)
theorem qr_227_160_12 : urn 227 160 12 = some 173 := urn_at (by decide +kernel)
theorem fi_12_40 : am_inb (12 : Int32) 40 = true := by decide
theorem wr_227 : am_u (urn 227) 201 12 (some 173) = urn 228 := urn_s (by decide +kernel)
theorem tk_173 {n : Nat} (h : 173 < n) : (utn L fl n).1 173 = 15 := (utn_k h).trans (by decide +kernel)
theorem qr_228_160_13 : urn 228 160 13 = some 174 := urn_at (by decide +kernel)
theorem fi_13_40 : am_inb (13 : Int32) 40 = true := by decide
theorem wr_228 : am_u (urn 228) 201 13 (some 174) = urn 229 := urn_s (by decide +kernel)
theorem tk_174 {n : Nat} (h : 174 < n) : (utn L fl n).1 174 = 15 := (utn_k h).trans (by decide +kernel)
theorem qr_229_160_14 : urn 229 160 14 = some 175 := urn_at (by decide +kernel)
theorem fi_14_40 : am_inb (14 : Int32) 40 = true := by decide
theorem wr_229 : am_u (urn 229) 201 14 (some 175) = urn 230 := urn_s (by decide +kernel)
theorem tk_175 {n : Nat} (h : 175 < n) : (utn L fl n).1 175 = 15 := (utn_k h).trans (by decide +kernel)
theorem qr_230_160_15 : urn 230 160 15 = some 176 := urn_at (by decide +kernel)
theorem fi_15_40 : am_inb (15 : Int32) 40 = true := by decide
theorem wr_230 : am_u (urn 230) 201 15 (some 176) = urn 231 := urn_s (by decide +kernel)
theorem tk_176 {n : Nat} (h : 176 < n) : (utn L fl n).1 176 = 15 := (utn_k h).trans (by decide +kernel)
theorem qr_231_160_16 : urn 231 160 16 = some 177 := urn_at (by decide +kernel)
theorem fi_16_40 : am_inb (16 : Int32) 40 = true := by decide
theorem wr_231 : am_u (urn 231) 201 16 (some 177) = urn 232 := urn_s (by decide +kernel)
theorem tk_177 {n : Nat} (h : 177 < n) : (utn L fl n).1 177 = 15 := (utn_k h).trans (by decide +kernel)
theorem qr_232_160_17 : urn 232 160 17 = some 178 := urn_at (by decide +kernel)
theorem fc_17 : (17 : Int32).toNatClampNeg = 17 := by decide
theorem fi_17_40 : am_inb (17 : Int32) 40 = true := by decide
theorem wr_232 : am_u (urn 232) 201 17 (some 178) = urn 233 := urn_s (by decide +kernel)
theorem tk_178 {n : Nat} (h : 178 < n) : (utn L fl n).1 178 = 15 := (utn_k h).trans (by decide +kernel)
theorem qr_233_160_18 : urn 233 160 18 = some 179 := urn_at (by decide +kernel)
theorem fi_18_40 : am_inb (18 : Int32) 40 = true := by decide
theorem wr_233 : am_u (urn 233) 201 18 (some 179) = urn 234 := urn_s (by decide +kernel)
theorem tk_179 {n : Nat} (h : 179 < n) : (utn L fl n).1 179 = 15 := (utn_k h).trans (by decide +kernel)
theorem qr_234_160_19 : urn 234 160 19 = some 180 := urn_at (by decide +kernel)
theorem fc_19 : (19 : Int32).toNatClampNeg = 19 := by decide
theorem fi_19_40 : am_inb (19 : Int32) 40 = true := by decide
theorem wr_234 : am_u (urn 234) 201 19 (some 180) = urn 235 := urn_s (by decide +kernel)
theorem tk_180 {n : Nat} (h : 180 < n) : (utn L fl n).1 180 = 15 := (utn_k h).trans (by decide +kernel)
theorem qr_235_160_20 : urn 235 160 20 = some 181 := urn_at (by decide +kernel)
theorem fi_20_40 : am_inb (20 : Int32) 40 = true := by decide
theorem wr_235 : am_u (urn 235) 201 20 (some 181) = urn 236 := urn_s (by decide +kernel)
theorem tk_181 {n : Nat} (h : 181 < n) : (utn L fl n).1 181 = 15 := (utn_k h).trans (by decide +kernel)
theorem qr_236_160_21 : urn 236 160 21 = some 182 := urn_at (by decide +kernel)
theorem fc_21 : (21 : Int32).toNatClampNeg = 21 := by decide
theorem fi_21_40 : am_inb (21 : Int32) 40 = true := by decide
theorem wr_236 : am_u (urn 236) 201 21 (some 182) = urn 237 := urn_s (by decide +kernel)
theorem tk_182 {n : Nat} (h : 182 < n) : (utn L fl n).1 182 = 15 := (utn_k h).trans (by decide +kernel)
theorem qr_237_160_22 : urn 237 160 22 = some 183 := urn_at (by decide +kernel)
theorem fc_22 : (22 : Int32).toNatClampNeg = 22 := by decide
theorem fi_22_40 : am_inb (22 : Int32) 40 = true := by decide
theorem wr_237 : am_u (urn 237) 201 22 (some 183) = urn 238 := urn_s (by decide +kernel)
theorem tk_183 {n : Nat} (h : 183 < n) : (utn L fl n).1 183 = 15 := (utn_k h).trans (by decide +kernel)
theorem qr_238_160_23 : urn 238 160 23 = some 184 := urn_at (by decide +kernel)
theorem fc_23 : (23 : Int32).toNatClampNeg = 23 := by decide
theorem fi_23_40 : am_inb (23 : Int32) 40 = true := by decide
theorem wr_238 : am_u (urn 238) 201 23 (some 184) = urn 239 := urn_s (by decide +kernel)
theorem tk_184 {n : Nat} (h : 184 < n) : (utn L fl n).1 184 = 15 := (utn_k h).trans (by decide +kernel)
theorem qr_239_160_24 : urn 239 160 24 = some 185 := urn_at (by decide +kernel)
theorem fi_24_40 : am_inb (24 : Int32) 40 = true := by decide
theorem wr_239 : am_u (urn 239) 201 24 (some 185) = urn 240 := urn_s (by decide +kernel)
theorem tk_185 {n : Nat} (h : 185 < n) : (utn L fl n).1 185 = 15 := (utn_k h).trans (by decide +kernel)
theorem qr_240_160_25 : urn 240 160 25 = some 186 := urn_at (by decide +kernel)
theorem fc_25 : (25 : Int32).toNatClampNeg = 25 := by decide
theorem fi_25_40 : am_inb (25 : Int32) 40 = true := by decide
theorem wr_240 : am_u (urn 240) 201 25 (some 186) = urn 241 := urn_s (by decide +kernel)
theorem tk_186 {n : Nat} (h : 186 < n) : (utn L fl n).1 186 = 15 := (utn_k h).trans (by decide +kernel)
theorem qr_241_160_26 : urn 241 160 26 = some 187 := urn_at (by decide +kernel)
theorem fc_26 : (26 : Int32).toNatClampNeg = 26 := by decide
theorem fi_26_40 : am_inb (26 : Int32) 40 = true := by decide
theorem wr_241 : am_u (urn 241) 201 26 (some 187) = urn 242 := urn_s (by decide +kernel)
theorem tk_187 {n : Nat} (h : 187 < n) : (utn L fl n).1 187 = 15 := (utn_k h).trans (by decide +kernel)
theorem qr_242_160_27 : urn 242 160 27 = some 188 := urn_at (by decide +kernel)
theorem fc_27 : (27 : Int32).toNatClampNeg = 27 := by decide
theorem fi_27_40 : am_inb (27 : Int32) 40 = true := by decide
theorem wr_242 : am_u (urn 242) 201 27 (some 188) = urn 243 := urn_s (by decide +kernel)
theorem tk_188 {n : Nat} (h : 188 < n) : (utn L fl n).1 188 = 15 := (utn_k h).trans (by decide +kernel)
theorem qr_243_160_28 : urn 243 160 28 = some 189 := urn_at (by decide +kernel)
theorem fc_28 : (28 : Int32).toNatClampNeg = 28 := by decide
theorem fi_28_40 : am_inb (28 : Int32) 40 = true := by decide
theorem wr_243 : am_u (urn 243) 201 28 (some 189) = urn 244 := urn_s (by decide +kernel)
theorem tk_189 {n : Nat} (h : 189 < n) : (utn L fl n).1 189 = 15 := (utn_k h).trans (by decide +kernel)
theorem qr_244_160_29 : urn 244 160 29 = some 190 := urn_at (by decide +kernel)
theorem fc_29 : (29 : Int32).toNatClampNeg = 29 := by decide
theorem fi_29_40 : am_inb (29 : Int32) 40 = true := by decide
theorem wr_244 : am_u (urn 244) 201 29 (some 190) = urn 245 := urn_s (by decide +kernel)
theorem tk_190 {n : Nat} (h : 190 < n) : (utn L fl n).1 190 = 15 := (utn_k h).trans (by decide +kernel)
theorem qr_245_160_30 : urn 245 160 30 = some 191 := urn_at (by decide +kernel)
theorem fi_30_40 : am_inb (30 : Int32) 40 = true := by decide
theorem wr_245 : am_u (urn 245) 201 30 (some 191) = urn 246 := urn_s (by decide +kernel)
theorem tk_191 {n : Nat} (h : 191 < n) : (utn L fl n).1 191 = 15 := (utn_k h).trans (by decide +kernel)
theorem qr_246_160_31 : urn 246 160 31 = some 192 := urn_at (by decide +kernel)
theorem fc_31 : (31 : Int32).toNatClampNeg = 31 := by decide
theorem fi_31_40 : am_inb (31 : Int32) 40 = true := by decide
theorem wr_246 : am_u (urn 246) 201 31 (some 192) = urn 247 := urn_s (by decide +kernel)
theorem tk_192 {n : Nat} (h : 192 < n) : (utn L fl n).1 192 = 15 := (utn_k h).trans (by decide +kernel)
theorem qr_247_160_32 : urn 247 160 32 = some 193 := urn_at (by decide +kernel)
theorem fi_32_40 : am_inb (32 : Int32) 40 = true := by decide
theorem wr_247 : am_u (urn 247) 201 32 (some 193) = urn 248 := urn_s (by decide +kernel)
theorem tk_193 {n : Nat} (h : 193 < n) : (utn L fl n).1 193 = 15 := (utn_k h).trans (by decide +kernel)
theorem qr_248_160_33 : urn 248 160 33 = some 194 := urn_at (by decide +kernel)
theorem fc_33 : (33 : Int32).toNatClampNeg = 33 := by decide
theorem fi_33_40 : am_inb (33 : Int32) 40 = true := by decide
theorem wr_248 : am_u (urn 248) 201 33 (some 194) = urn 249 := urn_s (by decide +kernel)
theorem tk_194 {n : Nat} (h : 194 < n) : (utn L fl n).1 194 = 15 := (utn_k h).trans (by decide +kernel)
theorem qr_249_160_34 : urn 249 160 34 = some 195 := urn_at (by decide +kernel)
theorem fc_34 : (34 : Int32).toNatClampNeg = 34 := by decide
theorem fi_34_40 : am_inb (34 : Int32) 40 = true := by decide
theorem wr_249 : am_u (urn 249) 201 34 (some 195) = urn 250 := urn_s (by decide +kernel)
theorem tk_195 {n : Nat} (h : 195 < n) : (utn L fl n).1 195 = 15 := (utn_k h).trans (by decide +kernel)
theorem qr_250_160_35 : urn 250 160 35 = some 196 := urn_at (by decide +kernel)
theorem fc_35 : (35 : Int32).toNatClampNeg = 35 := by decide
theorem fi_35_40 : am_inb (35 : Int32) 40 = true := by decide
theorem wr_250 : am_u (urn 250) 201 35 (some 196) = urn 251 := urn_s (by decide +kernel)
theorem tk_196 {n : Nat} (h : 196 < n) : (utn L fl n).1 196 = 15 := (utn_k h).trans (by decide +kernel)
theorem qr_251_160_36 : urn 251 160 36 = some 197 := urn_at (by decide +kernel)
theorem fc_36 : (36 : Int32).toNatClampNeg = 36 := by decide
theorem fi_36_40 : am_inb (36 : Int32) 40 = true := by decide
theorem wr_251 : am_u (urn 251) 201 36 (some 197) = urn 252 := urn_s (by decide +kernel)
theorem tk_197 {n : Nat} (h : 197 < n) : (utn L fl n).1 197 = 15 := (utn_k h).trans (by decide +kernel)
theorem qr_252_160_37 : urn 252 160 37 = some 198 := urn_at (by decide +kernel)
theorem fc_37 : (37 : Int32).toNatClampNeg = 37 := by decide
theorem fi_37_40 : am_inb (37 : Int32) 40 = true := by decide
theorem wr_252 : am_u (urn 252) 201 37 (some 198) = urn 253 := urn_s (by decide +kernel)
theorem tk_198 {n : Nat} (h : 198 < n) : (utn L fl n).1 198 = 15 := (utn_k h).trans (by decide +kernel)
theorem qr_253_160_38 : urn 253 160 38 = some 199 := urn_at (by decide +kernel)
theorem fc_38 : (38 : Int32).toNatClampNeg = 38 := by decide
theorem fi_38_40 : am_inb (38 : Int32) 40 = true := by decide
theorem wr_253 : am_u (urn 253) 201 38 (some 199) = urn 254 := urn_s (by decide +kernel)
theorem tk_199 {n : Nat} (h : 199 < n) : (utn L fl n).1 199 = 15 := (utn_k h).trans (by decide +kernel)
theorem qr_254_160_39 : urn 254 160 39 = some 200 := urn_at (by decide +kernel)
theorem fc_39 : (39 : Int32).toNatClampNeg = 39 := by decide
theorem fi_39_40 : am_inb (39 : Int32) 40 = true := by decide
theorem wr_254 : am_u (urn 254) 201 39 (some 200) = urn 255 := urn_s (by decide +kernel)
theorem tk_200 {n : Nat} (h : 200 < n) : (utn L fl n).1 200 = 15 := (utn_k h).trans (by decide +kernel)
theorem wr_255 : am_u (urn 255) 160 40 (some 201) = urn 256 := urn_s (by decide +kernel)
theorem nw_202 : am_new 22 40 (usn xs 447) (urn 256) am_g0 (utn L fl 202) = (usn xs 447, urn 256, am_g0, utn L fl 203) := new_n (by decide +kernel) (by decide +kernel) (by decide +kernel) (by decide +kernel) (by decide +kernel) (by decide)
theorem wr_256 : am_u (urn 256) 160 41 (some 202) = urn 257 := urn_s (by decide +kernel)
theorem nw_203 : am_new 15 240 (usn xs 447) (urn 257) am_g0 (utn L fl 203) = (usn xs 447, urn 257, am_g0, utn L fl 204) := new_n (by decide +kernel) (by decide +kernel) (by decide +kernel) (by decide +kernel) (by decide +kernel) (by decide)
theorem wr_257 : am_u (urn 257) 160 43 (some 203) = urn 258 := urn_s (by decide +kernel)
theorem nw_204 : am_new 15 16 (usn xs 447) (urn 258) am_g0 (utn L fl 204) = (usn xs 447, urn 258, am_g0, utn L fl 205) := new_n (by decide +kernel) (by decide +kernel) (by decide +kernel) (by decide +kernel) (by decide +kernel) (by decide)
theorem wr_258 : am_u (urn 258) 160 45 (some 204) = urn 259 := urn_s (by decide +kernel)
theorem nw_205 : am_new 15 16 (usn xs 447) (urn 259) am_g0 (utn L fl 205) = (usn xs 447, urn 259, am_g0, utn L fl 206) := new_n (by decide +kernel) (by decide +kernel) (by decide +kernel) (by decide +kernel) (by decide +kernel) (by decide)
theorem wr_259 : am_u (urn 259) 160 46 (some 205) = urn 260 := urn_s (by decide +kernel)
theorem nw_206 : am_new 16 160 (usn xs 447) (urn 260) am_g0 (utn L fl 206) = (usn xs 447, urn 260, am_g0, utn L fl 207) := new_n (by decide +kernel) (by decide +kernel) (by decide +kernel) (by decide +kernel) (by decide +kernel) (by decide)
theorem fc_160 : (160 : Int32).toNatClampNeg = 160 := by decide
theorem flt_160_0 : ((160 : Int32) < 0) = False := by decide
theorem wr_260 : am_u (urn 260) 160 48 (some 206) = urn 261 := urn_s (by decide +kernel)
theorem nw_207 : am_new 15 4 (usn xs 447) (urn 261) am_g0 (utn L fl 207) = (usn xs 447, urn 261, am_g0, utn L fl 208) := new_n (by decide +kernel) (by decide +kernel) (by decide +kernel) (by decide +kernel) (by decide +kernel) (by decide)
theorem wr_261 : am_u (urn 261) 160 49 (some 207) = urn 262 := urn_s (by decide +kernel)
theorem nw_208 : am_new 15 4 (usn xs 447) (urn 262) am_g0 (utn L fl 208) = (usn xs 447, urn 262, am_g0, utn L fl 209) := new_n (by decide +kernel) (by decide +kernel) (by decide +kernel) (by decide +kernel) (by decide +kernel) (by decide)
theorem wr_262 : am_u (urn 262) 160 50 (some 208) = urn 263 := urn_s (by decide +kernel)
theorem nw_209 : am_new 15 4 (usn xs 447) (urn 263) am_g0 (utn L fl 209) = (usn xs 447, urn 263, am_g0, utn L fl 210) := new_n (by decide +kernel) (by decide +kernel) (by decide +kernel) (by decide +kernel) (by decide +kernel) (by decide)
theorem wr_263 : am_u (urn 263) 160 51 (some 209) = urn 264 := urn_s (by decide +kernel)
theorem nw_210 : am_new 15 4 (usn xs 447) (urn 264) am_g0 (utn L fl 210) = (usn xs 447, urn 264, am_g0, utn L fl 211) := new_n (by decide +kernel) (by decide +kernel) (by decide +kernel) (by decide +kernel) (by decide +kernel) (by decide)
theorem wr_264 : am_u (urn 264) 160 52 (some 210) = urn 265 := urn_s (by decide +kernel)
theorem nw_211 : am_new 15 4 (usn xs 447) (urn 265) am_g0 (utn L fl 211) = (usn xs 447, urn 265, am_g0, utn L fl 212) := new_n (by decide +kernel) (by decide +kernel) (by decide +kernel) (by decide +kernel) (by decide +kernel) (by decide)
theorem wr_265 : am_u (urn 265) 160 53 (some 211) = urn 266 := urn_s (by decide +kernel)
theorem nw_212 : am_new 15 30 (usn xs 447) (urn 266) am_g0 (utn L fl 212) = (usn xs 447, urn 266, am_g0, utn L fl 213) := new_n (by decide +kernel) (by decide +kernel) (by decide +kernel) (by decide +kernel) (by decide +kernel) (by decide)
theorem wr_266 : am_u (urn 266) 160 54 (some 212) = urn 267 := urn_s (by decide +kernel)
theorem nw_213 : am_new 15 369 (usn xs 447) (urn 267) am_g0 (utn L fl 213) = (usn xs 447, urn 267, am_g0, utn L fl 214) := new_n (by decide +kernel) (by decide +kernel) (by decide +kernel) (by decide +kernel) (by decide +kernel) (by decide)
theorem wr_267 : am_u (urn 267) 160 56 (some 213) = urn 268 := urn_s (by decide +kernel)
theorem nw_214 : am_new 17 256 (usn xs 447) (urn 268) am_g0 (utn L fl 214) = (usn xs 447, urn 268, am_g0, utn L fl 215) := new_n (by decide +kernel) (by decide +kernel) (by decide +kernel) (by decide +kernel) (by decide +kernel) (by decide)
theorem fc_256 : (256 : Int32).toNatClampNeg = 256 := by decide
theorem flt_256_0 : ((256 : Int32) < 0) = False := by decide
theorem wr_268 : am_u (urn 268) 160 63 (some 214) = urn 269 := urn_s (by decide +kernel)
theorem nw_215 : am_new 15 16 (usn xs 447) (urn 269) am_g0 (utn L fl 215) = (usn xs 447, urn 269, am_g0, utn L fl 216) := new_n (by decide +kernel) (by decide +kernel) (by decide +kernel) (by decide +kernel) (by decide +kernel) (by decide)
theorem wr_269 : am_u (urn 269) 160 64 (some 215) = urn 270 := urn_s (by decide +kernel)
theorem nw_216 : am_new 15 16 (usn xs 447) (urn 270) am_g0 (utn L fl 216) = (usn xs 447, urn 270, am_g0, utn L fl 217) := new_n (by decide +kernel) (by decide +kernel) (by decide +kernel) (by decide +kernel) (by decide +kernel) (by decide)
theorem wr_270 : am_u (urn 270) 160 65 (some 216) = urn 271 := urn_s (by decide +kernel)
theorem nw_217 : am_new 15 16 (usn xs 447) (urn 271) am_g0 (utn L fl 217) = (usn xs 447, urn 271, am_g0, utn L fl 218) := new_n (by decide +kernel) (by decide +kernel) (by decide +kernel) (by decide +kernel) (by decide +kernel) (by decide)
theorem wr_271 : am_u (urn 271) 160 66 (some 217) = urn 272 := urn_s (by decide +kernel)
theorem nw_218 : am_new 15 3 (usn xs 447) (urn 272) am_g0 (utn L fl 218) = (usn xs 447, urn 272, am_g0, utn L fl 219) := new_n (by decide +kernel) (by decide +kernel) (by decide +kernel) (by decide +kernel) (by decide +kernel) (by decide)
theorem wr_272 : am_u (urn 272) 160 67 (some 218) = urn 273 := urn_s (by decide +kernel)
theorem nw_219 : am_new 15 20 (usn xs 447) (urn 273) am_g0 (utn L fl 219) = (usn xs 447, urn 273, am_g0, utn L fl 220) := new_n (by decide +kernel) (by decide +kernel) (by decide +kernel) (by decide +kernel) (by decide +kernel) (by decide)
theorem wr_273 : am_u (urn 273) 160 68 (some 219) = urn 274 := urn_s (by decide +kernel)
theorem nw_220 : am_new 17 20 (usn xs 447) (urn 274) am_g0 (utn L fl 220) = (usn xs 447, urn 274, am_g0, utn L fl 221) := new_n (by decide +kernel) (by decide +kernel) (by decide +kernel) (by decide +kernel) (by decide +kernel) (by decide)
theorem wr_274 : am_u (urn 274) 160 69 (some 220) = urn 275 := urn_s (by decide +kernel)
theorem qr_275_160_1 : urn 275 160 1 = some 162 := urn_at (by decide +kernel)
theorem tl_162 {n : Nat} (h : 162 < n) : (utn L fl n).2.1 162 = 3 := (utn_l h).trans (by decide +kernel)
theorem fi_0_3 : am_inb (0 : Int32) 3 = true := by decide
theorem ws_447 : am_u (usn xs 447) 162 0 10 = usn xs 448 := usn_s (by decide +kernel)
theorem flt_1_3 : ((1 : Int32) < 3) = True := by decide
theorem fle_1_3 : ((1 : Int32) ≤ 3) = True := by decide
theorem flt_3_1 : ((3 : Int32) < 1) = False := by decide
theorem fle_3_1 : ((3 : Int32) ≤ 1) = False := by decide
theorem fe_1_3 : ((1 : Int32) = 3) = False := by decide
theorem fi_1_3 : am_inb (1 : Int32) 3 = true := by decide
theorem ws_448 : am_u (usn xs 448) 162 1 10 = usn xs 449 := usn_s (by decide +kernel)
theorem flt_2_3 : ((2 : Int32) < 3) = True := by decide
theorem fle_2_3 : ((2 : Int32) ≤ 3) = True := by decide
theorem flt_3_2 : ((3 : Int32) < 2) = False := by decide
theorem fle_3_2 : ((3 : Int32) ≤ 2) = False := by decide
theorem fe_2_3 : ((2 : Int32) = 3) = False := by decide
theorem fi_2_3 : am_inb (2 : Int32) 3 = true := by decide
theorem ws_449 : am_u (usn xs 449) 162 2 10 = usn xs 450 := usn_s (by decide +kernel)
theorem flt_3_3 : ((3 : Int32) < 3) = False := by decide
theorem fle_3_3 : ((3 : Int32) ≤ 3) = True := by decide
theorem flt_0_12 : ((0 : Int32) < 12) = True := by decide
theorem fle_0_12 : ((0 : Int32) ≤ 12) = True := by decide
theorem fle_12_0 : ((12 : Int32) ≤ 0) = False := by decide
theorem fe_0_12 : ((0 : Int32) = 12) = False := by decide
theorem qr_275_160_2 : urn 275 160 2 = some 163 := urn_at (by decide +kernel)
theorem tl_163 {n : Nat} (h : 163 < n) : (utn L fl n).2.1 163 = 12 := (utn_l h).trans (by decide +kernel)
theorem fi_0_12 : am_inb (0 : Int32) 12 = true := by decide
theorem ws_450 : am_u (usn xs 450) 163 0 100 = usn xs 451 := usn_s (by decide +kernel)
theorem flt_1_12 : ((1 : Int32) < 12) = True := by decide
theorem fle_1_12 : ((1 : Int32) ≤ 12) = True := by decide
theorem flt_12_1 : ((12 : Int32) < 1) = False := by decide
theorem fle_12_1 : ((12 : Int32) ≤ 1) = False := by decide
theorem fe_1_12 : ((1 : Int32) = 12) = False := by decide
theorem fi_1_12 : am_inb (1 : Int32) 12 = true := by decide
theorem ws_451 : am_u (usn xs 451) 163 1 100 = usn xs 452 := usn_s (by decide +kernel)
theorem flt_2_12 : ((2 : Int32) < 12) = True := by decide
theorem fle_2_12 : ((2 : Int32) ≤ 12) = True := by decide
theorem flt_12_2 : ((12 : Int32) < 2) = False := by decide
theorem fle_12_2 : ((12 : Int32) ≤ 2) = False := by decide
theorem fe_2_12 : ((2 : Int32) = 12) = False := by decide
theorem fi_2_12 : am_inb (2 : Int32) 12 = true := by decide
theorem ws_452 : am_u (usn xs 452) 163 2 100 = usn xs 453 := usn_s (by decide +kernel)
theorem flt_3_12 : ((3 : Int32) < 12) = True := by decide
theorem fle_3_12 : ((3 : Int32) ≤ 12) = True := by decide
theorem flt_12_3 : ((12 : Int32) < 3) = False := by decide
theorem fle_12_3 : ((12 : Int32) ≤ 3) = False := by decide
theorem fe_3_12 : ((3 : Int32) = 12) = False := by decide
theorem fi_3_12 : am_inb (3 : Int32) 12 = true := by decide
theorem ws_453 : am_u (usn xs 453) 163 3 100 = usn xs 454 := usn_s (by decide +kernel)
theorem flt_4_12 : ((4 : Int32) < 12) = True := by decide
theorem fle_4_12 : ((4 : Int32) ≤ 12) = True := by decide
theorem flt_12_4 : ((12 : Int32) < 4) = False := by decide
theorem fle_12_4 : ((12 : Int32) ≤ 4) = False := by decide
theorem fe_4_12 : ((4 : Int32) = 12) = False := by decide
theorem fi_4_12 : am_inb (4 : Int32) 12 = true := by decide
theorem ws_454 : am_u (usn xs 454) 163 4 100 = usn xs 455 := usn_s (by decide +kernel)
theorem flt_5_12 : ((5 : Int32) < 12) = True := by decide
theorem fle_5_12 : ((5 : Int32) ≤ 12) = True := by decide
theorem flt_12_5 : ((12 : Int32) < 5) = False := by decide
theorem fle_12_5 : ((12 : Int32) ≤ 5) = False := by decide
theorem fe_5_12 : ((5 : Int32) = 12) = False := by decide
theorem fi_5_12 : am_inb (5 : Int32) 12 = true := by decide
theorem ws_455 : am_u (usn xs 455) 163 5 100 = usn xs 456 := usn_s (by decide +kernel)
theorem flt_6_12 : ((6 : Int32) < 12) = True := by decide
theorem fle_6_12 : ((6 : Int32) ≤ 12) = True := by decide
theorem flt_12_6 : ((12 : Int32) < 6) = False := by decide
theorem fle_12_6 : ((12 : Int32) ≤ 6) = False := by decide
theorem fe_6_12 : ((6 : Int32) = 12) = False := by decide
theorem fi_6_12 : am_inb (6 : Int32) 12 = true := by decide
theorem ws_456 : am_u (usn xs 456) 163 6 100 = usn xs 457 := usn_s (by decide +kernel)
theorem flt_7_12 : ((7 : Int32) < 12) = True := by decide
theorem fle_7_12 : ((7 : Int32) ≤ 12) = True := by decide
theorem flt_12_7 : ((12 : Int32) < 7) = False := by decide
theorem fle_12_7 : ((12 : Int32) ≤ 7) = False := by decide
theorem fe_7_12 : ((7 : Int32) = 12) = False := by decide
theorem fi_7_12 : am_inb (7 : Int32) 12 = true := by decide
theorem ws_457 : am_u (usn xs 457) 163 7 100 = usn xs 458 := usn_s (by decide +kernel)
theorem flt_8_12 : ((8 : Int32) < 12) = True := by decide
theorem fle_8_12 : ((8 : Int32) ≤ 12) = True := by decide
theorem flt_12_8 : ((12 : Int32) < 8) = False := by decide
theorem fle_12_8 : ((12 : Int32) ≤ 8) = False := by decide
theorem fe_8_12 : ((8 : Int32) = 12) = False := by decide
theorem fi_8_12 : am_inb (8 : Int32) 12 = true := by decide
theorem ws_458 : am_u (usn xs 458) 163 8 100 = usn xs 459 := usn_s (by decide +kernel)
theorem flt_9_12 : ((9 : Int32) < 12) = True := by decide
theorem fle_9_12 : ((9 : Int32) ≤ 12) = True := by decide
theorem flt_12_9 : ((12 : Int32) < 9) = False := by decide
theorem fle_12_9 : ((12 : Int32) ≤ 9) = False := by decide
theorem fe_9_12 : ((9 : Int32) = 12) = False := by decide
theorem fi_9_12 : am_inb (9 : Int32) 12 = true := by decide
theorem ws_459 : am_u (usn xs 459) 163 9 100 = usn xs 460 := usn_s (by decide +kernel)
theorem flt_10_12 : ((10 : Int32) < 12) = True := by decide
theorem fle_10_12 : ((10 : Int32) ≤ 12) = True := by decide
theorem flt_12_10 : ((12 : Int32) < 10) = False := by decide
theorem fle_12_10 : ((12 : Int32) ≤ 10) = False := by decide
theorem fe_10_12 : ((10 : Int32) = 12) = False := by decide
theorem fi_10_12 : am_inb (10 : Int32) 12 = true := by decide
theorem ws_460 : am_u (usn xs 460) 163 10 100 = usn xs 461 := usn_s (by decide +kernel)
theorem flt_11_12 : ((11 : Int32) < 12) = True := by decide
theorem fle_11_12 : ((11 : Int32) ≤ 12) = True := by decide
theorem flt_12_11 : ((12 : Int32) < 11) = False := by decide
theorem fle_12_11 : ((12 : Int32) ≤ 11) = False := by decide
theorem fe_11_12 : ((11 : Int32) = 12) = False := by decide
theorem fi_11_12 : am_inb (11 : Int32) 12 = true := by decide
theorem ws_461 : am_u (usn xs 461) 163 11 100 = usn xs 462 := usn_s (by decide +kernel)
theorem flt_12_12 : ((12 : Int32) < 12) = False := by decide
theorem fle_12_12 : ((12 : Int32) ≤ 12) = True := by decide
theorem qr_275_160_49 : urn 275 160 49 = some 207 := urn_at (by decide +kernel)
theorem tk_207 {n : Nat} (h : 207 < n) : (utn L fl n).1 207 = 15 := (utn_k h).trans (by decide +kernel)
theorem tl_207 {n : Nat} (h : 207 < n) : (utn L fl n).2.1 207 = 4 := (utn_l h).trans (by decide +kernel)
theorem fi_0_4 : am_inb (0 : Int32) 4 = true := by decide
theorem ws_462 : am_u (usn xs 462) 207 0 (-1) = usn xs 463 := usn_s (by decide +kernel)
theorem qr_275_160_51 : urn 275 160 51 = some 209 := urn_at (by decide +kernel)
theorem tk_209 {n : Nat} (h : 209 < n) : (utn L fl n).1 209 = 15 := (utn_k h).trans (by decide +kernel)
theorem tl_209 {n : Nat} (h : 209 < n) : (utn L fl n).2.1 209 = 4 := (utn_l h).trans (by decide +kernel)
theorem ws_463 : am_u (usn xs 463) 209 0 3 = usn xs 464 := usn_s (by decide +kernel)
theorem flt_1_4 : ((1 : Int32) < 4) = True := by decide
theorem fle_1_4 : ((1 : Int32) ≤ 4) = True := by decide
theorem flt_4_1 : ((4 : Int32) < 1) = False := by decide
theorem fle_4_1 : ((4 : Int32) ≤ 1) = False := by decide
theorem fe_1_4 : ((1 : Int32) = 4) = False := by decide
theorem fi_1_4 : am_inb (1 : Int32) 4 = true := by decide
theorem ws_464 : am_u (usn xs 464) 207 1 (-1) = usn xs 465 := usn_s (by decide +kernel)
theorem ws_465 : am_u (usn xs 465) 209 1 3 = usn xs 466 := usn_s (by decide +kernel)
theorem flt_2_4 : ((2 : Int32) < 4) = True := by decide
theorem fle_2_4 : ((2 : Int32) ≤ 4) = True := by decide
theorem flt_4_2 : ((4 : Int32) < 2) = False := by decide
theorem fle_4_2 : ((4 : Int32) ≤ 2) = False := by decide
theorem fe_2_4 : ((2 : Int32) = 4) = False := by decide
theorem fi_2_4 : am_inb (2 : Int32) 4 = true := by decide
theorem ws_466 : am_u (usn xs 466) 207 2 (-1) = usn xs 467 := usn_s (by decide +kernel)
theorem ws_467 : am_u (usn xs 467) 209 2 3 = usn xs 468 := usn_s (by decide +kernel)
theorem flt_3_4 : ((3 : Int32) < 4) = True := by decide
theorem fle_3_4 : ((3 : Int32) ≤ 4) = True := by decide
theorem flt_4_3 : ((4 : Int32) < 3) = False := by decide
theorem fle_4_3 : ((4 : Int32) ≤ 3) = False := by decide
theorem fe_3_4 : ((3 : Int32) = 4) = False := by decide
theorem fi_3_4 : am_inb (3 : Int32) 4 = true := by decide
theorem ws_468 : am_u (usn xs 468) 207 3 (-1) = usn xs 469 := usn_s (by decide +kernel)
theorem ws_469 : am_u (usn xs 469) 209 3 3 = usn xs 470 := usn_s (by decide +kernel)
theorem flt_4_4 : ((4 : Int32) < 4) = False := by decide
theorem fle_4_4 : ((4 : Int32) ≤ 4) = True := by decide
theorem flt_0_40 : ((0 : Int32) < 40) = True := by decide
theorem fle_0_40 : ((0 : Int32) ≤ 40) = True := by decide
theorem fle_40_0 : ((40 : Int32) ≤ 0) = False := by decide
theorem fe_0_40 : ((0 : Int32) = 40) = False := by decide
theorem qr_275_160_41 : urn 275 160 41 = some 202 := urn_at (by decide +kernel)
theorem qr_275_160_40 : urn 275 160 40 = some 201 := urn_at (by decide +kernel)
theorem qr_275_201_0 : urn 275 201 0 = some 161 := urn_at (by decide +kernel)
theorem tl_161 {n : Nat} (h : 161 < n) : (utn L fl n).2.1 161 = 9 := (utn_l h).trans (by decide +kernel)
theorem fn_9 : nI 9 = 9 := by decide
theorem nw_221 : am_new 15 9 (usn xs 470) (urn 275) am_g0 (utn L fl 221) = (usn xs 470, urn 275, am_g0, utn L fl 222) := new_n (by decide +kernel) (by decide +kernel) (by decide +kernel) (by decide +kernel) (by decide +kernel) (by decide)
theorem tk_202 {n : Nat} (h : 202 < n) : (utn L fl n).1 202 = 22 := (utn_k h).trans (by decide +kernel)
theorem tl_202 {n : Nat} (h : 202 < n) : (utn L fl n).2.1 202 = 40 := (utn_l h).trans (by decide +kernel)
theorem wr_275 : am_u (urn 275) 202 0 (some 221) = urn 276 := urn_s (by decide +kernel)
theorem tk_221 {n : Nat} (h : 221 < n) : (utn L fl n).1 221 = 15 := (utn_k h).trans (by decide +kernel)
theorem flt_1_40 : ((1 : Int32) < 40) = True := by decide
theorem fle_1_40 : ((1 : Int32) ≤ 40) = True := by decide
theorem flt_40_1 : ((40 : Int32) < 1) = False := by decide
theorem fle_40_1 : ((40 : Int32) ≤ 1) = False := by decide
theorem fe_1_40 : ((1 : Int32) = 40) = False := by decide
theorem qr_276_160_41 : urn 276 160 41 = some 202 := urn_at (by decide +kernel)
theorem qr_276_160_40 : urn 276 160 40 = some 201 := urn_at (by decide +kernel)
theorem qr_276_201_1 : urn 276 201 1 = some 162 := urn_at (by decide +kernel)
theorem fn_3 : nI 3 = 3 := by decide
theorem nw_222 : am_new 15 3 (usn xs 470) (urn 276) am_g0 (utn L fl 222) = (usn xs 470, urn 276, am_g0, utn L fl 223) := new_n (by decide +kernel) (by decide +kernel) (by decide +kernel) (by decide +kernel) (by decide +kernel) (by decide)
theorem wr_276 : am_u (urn 276) 202 1 (some 222) = urn 277 := urn_s (by decide +kernel)
theorem tk_222 {n : Nat} (h : 222 < n) : (utn L fl n).1 222 = 15 := (utn_k h).trans (by decide +kernel)
theorem flt_2_40 : ((2 : Int32) < 40) = True := by decide
theorem fle_2_40 : ((2 : Int32) ≤ 40) = True := by decide
theorem flt_40_2 : ((40 : Int32) < 2) = False := by decide
theorem fle_40_2 : ((40 : Int32) ≤ 2) = False := by decide
theorem fe_2_40 : ((2 : Int32) = 40) = False := by decide
theorem qr_277_160_41 : urn 277 160 41 = some 202 := urn_at (by decide +kernel)
theorem qr_277_160_40 : urn 277 160 40 = some 201 := urn_at (by decide +kernel)
theorem qr_277_201_2 : urn 277 201 2 = some 163 := urn_at (by decide +kernel)
theorem fn_12 : nI 12 = 12 := by decide
theorem nw_223 : am_new 15 12 (usn xs 470) (urn 277) am_g0 (utn L fl 223) = (usn xs 470, urn 277, am_g0, utn L fl 224) := new_n (by decide +kernel) (by decide +kernel) (by decide +kernel) (by decide +kernel) (by decide +kernel) (by decide)
theorem wr_277 : am_u (urn 277) 202 2 (some 223) = urn 278 := urn_s (by decide +kernel)
theorem tk_223 {n : Nat} (h : 223 < n) : (utn L fl n).1 223 = 15 := (utn_k h).trans (by decide +kernel)
theorem flt_3_40 : ((3 : Int32) < 40) = True := by decide
theorem fle_3_40 : ((3 : Int32) ≤ 40) = True := by decide
theorem flt_40_3 : ((40 : Int32) < 3) = False := by decide
theorem fle_40_3 : ((40 : Int32) ≤ 3) = False := by decide
theorem fe_3_40 : ((3 : Int32) = 40) = False := by decide
theorem qr_278_160_41 : urn 278 160 41 = some 202 := urn_at (by decide +kernel)
theorem qr_278_160_40 : urn 278 160 40 = some 201 := urn_at (by decide +kernel)
theorem qr_278_201_3 : urn 278 201 3 = some 164 := urn_at (by decide +kernel)
theorem tl_164 {n : Nat} (h : 164 < n) : (utn L fl n).2.1 164 = 5 := (utn_l h).trans (by decide +kernel)
theorem fn_5 : nI 5 = 5 := by decide
theorem nw_224 : am_new 15 5 (usn xs 470) (urn 278) am_g0 (utn L fl 224) = (usn xs 470, urn 278, am_g0, utn L fl 225) := new_n (by decide +kernel) (by decide +kernel) (by decide +kernel) (by decide +kernel) (by decide +kernel) (by decide)
theorem wr_278 : am_u (urn 278) 202 3 (some 224) = urn 279 := urn_s (by decide +kernel)
theorem tk_224 {n : Nat} (h : 224 < n) : (utn L fl n).1 224 = 15 := (utn_k h).trans (by decide +kernel)
theorem flt_4_40 : ((4 : Int32) < 40) = True := by decide
theorem fle_4_40 : ((4 : Int32) ≤ 40) = True := by decide
theorem flt_40_4 : ((40 : Int32) < 4) = False := by decide
theorem fle_40_4 : ((40 : Int32) ≤ 4) = False := by decide
theorem fe_4_40 : ((4 : Int32) = 40) = False := by decide
theorem qr_279_160_41 : urn 279 160 41 = some 202 := urn_at (by decide +kernel)
theorem qr_279_160_40 : urn 279 160 40 = some 201 := urn_at (by decide +kernel)
theorem qr_279_201_4 : urn 279 201 4 = some 165 := urn_at (by decide +kernel)
theorem tl_165 {n : Nat} (h : 165 < n) : (utn L fl n).2.1 165 = 24 := (utn_l h).trans (by decide +kernel)
theorem fn_24 : nI 24 = 24 := by decide
theorem nw_225 : am_new 15 24 (usn xs 470) (urn 279) am_g0 (utn L fl 225) = (usn xs 470, urn 279, am_g0, utn L fl 226) := new_n (by decide +kernel) (by decide +kernel) (by decide +kernel) (by decide +kernel) (by decide +kernel) (by decide)
theorem wr_279 : am_u (urn 279) 202 4 (some 225) = urn 280 := urn_s (by decide +kernel)
theorem tk_225 {n : Nat} (h : 225 < n) : (utn L fl n).1 225 = 15 := (utn_k h).trans (by decide +kernel)
theorem flt_5_40 : ((5 : Int32) < 40) = True := by decide
theorem fle_5_40 : ((5 : Int32) ≤ 40) = True := by decide
theorem flt_40_5 : ((40 : Int32) < 5) = False := by decide
theorem fle_40_5 : ((40 : Int32) ≤ 5) = False := by decide
theorem fe_5_40 : ((5 : Int32) = 40) = False := by decide
theorem qr_280_160_41 : urn 280 160 41 = some 202 := urn_at (by decide +kernel)
theorem qr_280_160_40 : urn 280 160 40 = some 201 := urn_at (by decide +kernel)
theorem qr_280_201_5 : urn 280 201 5 = some 166 := urn_at (by decide +kernel)
theorem tl_166 {n : Nat} (h : 166 < n) : (utn L fl n).2.1 166 = 8 := (utn_l h).trans (by decide +kernel)
theorem fn_8 : nI 8 = 8 := by decide
theorem nw_226 : am_new 15 8 (usn xs 470) (urn 280) am_g0 (utn L fl 226) = (usn xs 470, urn 280, am_g0, utn L fl 227) := new_n (by decide +kernel) (by decide +kernel) (by decide +kernel) (by decide +kernel) (by decide +kernel) (by decide)
theorem wr_280 : am_u (urn 280) 202 5 (some 226) = urn 281 := urn_s (by decide +kernel)
theorem tk_226 {n : Nat} (h : 226 < n) : (utn L fl n).1 226 = 15 := (utn_k h).trans (by decide +kernel)
theorem flt_6_40 : ((6 : Int32) < 40) = True := by decide
theorem fle_6_40 : ((6 : Int32) ≤ 40) = True := by decide
theorem flt_40_6 : ((40 : Int32) < 6) = False := by decide
theorem fle_40_6 : ((40 : Int32) ≤ 6) = False := by decide
theorem fe_6_40 : ((6 : Int32) = 40) = False := by decide
theorem qr_281_160_41 : urn 281 160 41 = some 202 := urn_at (by decide +kernel)
theorem qr_281_160_40 : urn 281 160 40 = some 201 := urn_at (by decide +kernel)
theorem qr_281_201_6 : urn 281 201 6 = some 167 := urn_at (by decide +kernel)
theorem tl_167 {n : Nat} (h : 167 < n) : (utn L fl n).2.1 167 = 8 := (utn_l h).trans (by decide +kernel)
theorem nw_227 : am_new 15 8 (usn xs 470) (urn 281) am_g0 (utn L fl 227) = (usn xs 470, urn 281, am_g0, utn L fl 228) := new_n (by decide +kernel) (by decide +kernel) (by decide +kernel) (by decide +kernel) (by decide +kernel) (by decide)
theorem wr_281 : am_u (urn 281) 202 6 (some 227) = urn 282 := urn_s (by decide +kernel)
theorem tk_227 {n : Nat} (h : 227 < n) : (utn L fl n).1 227 = 15 := (utn_k h).trans (by decide +kernel)
theorem flt_7_40 : ((7 : Int32) < 40) = True := by decide
theorem fle_7_40 : ((7 : Int32) ≤ 40) = True := by decide
theorem flt_40_7 : ((40 : Int32) < 7) = False := by decide
theorem fle_40_7 : ((40 : Int32) ≤ 7) = False := by decide
theorem fe_7_40 : ((7 : Int32) = 40) = False := by decide
theorem qr_282_160_41 : urn 282 160 41 = some 202 := urn_at (by decide +kernel)
theorem qr_282_160_40 : urn 282 160 40 = some 201 := urn_at (by decide +kernel)
theorem qr_282_201_7 : urn 282 201 7 = some 168 := urn_at (by decide +kernel)
theorem tl_168 {n : Nat} (h : 168 < n) : (utn L fl n).2.1 168 = 8 := (utn_l h).trans (by decide +kernel)
theorem nw_228 : am_new 15 8 (usn xs 470) (urn 282) am_g0 (utn L fl 228) = (usn xs 470, urn 282, am_g0, utn L fl 229) := new_n (by decide +kernel) (by decide +kernel) (by decide +kernel) (by decide +kernel) (by decide +kernel) (by decide)
theorem wr_282 : am_u (urn 282) 202 7 (some 228) = urn 283 := urn_s (by decide +kernel)
theorem tk_228 {n : Nat} (h : 228 < n) : (utn L fl n).1 228 = 15 := (utn_k h).trans (by decide +kernel)
theorem flt_8_40 : ((8 : Int32) < 40) = True := by decide
theorem fle_8_40 : ((8 : Int32) ≤ 40) = True := by decide
theorem flt_40_8 : ((40 : Int32) < 8) = False := by decide
theorem fle_40_8 : ((40 : Int32) ≤ 8) = False := by decide
theorem fe_8_40 : ((8 : Int32) = 40) = False := by decide
theorem qr_283_160_41 : urn 283 160 41 = some 202 := urn_at (by decide +kernel)
theorem qr_283_160_40 : urn 283 160 40 = some 201 := urn_at (by decide +kernel)
theorem qr_283_201_8 : urn 283 201 8 = some 169 := urn_at (by decide +kernel)
theorem tl_169 {n : Nat} (h : 169 < n) : (utn L fl n).2.1 169 = 8 := (utn_l h).trans (by decide +kernel)
theorem nw_229 : am_new 15 8 (usn xs 470) (urn 283) am_g0 (utn L fl 229) = (usn xs 470, urn 283, am_g0, utn L fl 230) := new_n (by decide +kernel) (by decide +kernel) (by decide +kernel) (by decide +kernel) (by decide +kernel) (by decide)
theorem wr_283 : am_u (urn 283) 202 8 (some 229) = urn 284 := urn_s (by decide +kernel)
theorem tk_229 {n : Nat} (h : 229 < n) : (utn L fl n).1 229 = 15 := (utn_k h).trans (by decide +kernel)
theorem flt_9_40 : ((9 : Int32) < 40) = True := by decide
theorem fle_9_40 : ((9 : Int32) ≤ 40) = True := by decide
theorem flt_40_9 : ((40 : Int32) < 9) = False := by decide
theorem fle_40_9 : ((40 : Int32) ≤ 9) = False := by decide
theorem fe_9_40 : ((9 : Int32) = 40) = False := by decide
theorem qr_284_160_41 : urn 284 160 41 = some 202 := urn_at (by decide +kernel)
theorem qr_284_160_40 : urn 284 160 40 = some 201 := urn_at (by decide +kernel)
theorem qr_284_201_9 : urn 284 201 9 = some 170 := urn_at (by decide +kernel)
theorem tl_170 {n : Nat} (h : 170 < n) : (utn L fl n).2.1 170 = 16 := (utn_l h).trans (by decide +kernel)
theorem fn_16 : nI 16 = 16 := by decide
theorem nw_230 : am_new 15 16 (usn xs 470) (urn 284) am_g0 (utn L fl 230) = (usn xs 470, urn 284, am_g0, utn L fl 231) := new_n (by decide +kernel) (by decide +kernel) (by decide +kernel) (by decide +kernel) (by decide +kernel) (by decide)
theorem wr_284 : am_u (urn 284) 202 9 (some 230) = urn 285 := urn_s (by decide +kernel)
theorem tk_230 {n : Nat} (h : 230 < n) : (utn L fl n).1 230 = 15 := (utn_k h).trans (by decide +kernel)
theorem flt_10_40 : ((10 : Int32) < 40) = True := by decide
theorem fle_10_40 : ((10 : Int32) ≤ 40) = True := by decide
theorem flt_40_10 : ((40 : Int32) < 10) = False := by decide
theorem fle_40_10 : ((40 : Int32) ≤ 10) = False := by decide
theorem fe_10_40 : ((10 : Int32) = 40) = False := by decide
theorem qr_285_160_41 : urn 285 160 41 = some 202 := urn_at (by decide +kernel)
theorem qr_285_160_40 : urn 285 160 40 = some 201 := urn_at (by decide +kernel)
theorem qr_285_201_10 : urn 285 201 10 = some 171 := urn_at (by decide +kernel)
theorem tl_171 {n : Nat} (h : 171 < n) : (utn L fl n).2.1 171 = 16 := (utn_l h).trans (by decide +kernel)
theorem nw_231 : am_new 15 16 (usn xs 470) (urn 285) am_g0 (utn L fl 231) = (usn xs 470, urn 285, am_g0, utn L fl 232) := new_n (by decide +kernel) (by decide +kernel) (by decide +kernel) (by decide +kernel) (by decide +kernel) (by decide)
theorem wr_285 : am_u (urn 285) 202 10 (some 231) = urn 286 := urn_s (by decide +kernel)
theorem tk_231 {n : Nat} (h : 231 < n) : (utn L fl n).1 231 = 15 := (utn_k h).trans (by decide +kernel)
theorem flt_11_40 : ((11 : Int32) < 40) = True := by decide
theorem fle_11_40 : ((11 : Int32) ≤ 40) = True := by decide
theorem flt_40_11 : ((40 : Int32) < 11) = False := by decide
theorem fle_40_11 : ((40 : Int32) ≤ 11) = False := by decide
theorem fe_11_40 : ((11 : Int32) = 40) = False := by decide
theorem qr_286_160_41 : urn 286 160 41 = some 202 := urn_at (by decide +kernel)
theorem qr_286_160_40 : urn 286 160 40 = some 201 := urn_at (by decide +kernel)
theorem qr_286_201_11 : urn 286 201 11 = some 172 := urn_at (by decide +kernel)
theorem tl_172 {n : Nat} (h : 172 < n) : (utn L fl n).2.1 172 = 16 := (utn_l h).trans (by decide +kernel)
theorem nw_232 : am_new 15 16 (usn xs 470) (urn 286) am_g0 (utn L fl 232) = (usn xs 470, urn 286, am_g0, utn L fl 233) := new_n (by decide +kernel) (by decide +kernel) (by decide +kernel) (by decide +kernel) (by decide +kernel) (by decide)
theorem wr_286 : am_u (urn 286) 202 11 (some 232) = urn 287 := urn_s (by decide +kernel)
theorem tk_232 {n : Nat} (h : 232 < n) : (utn L fl n).1 232 = 15 := (utn_k h).trans (by decide +kernel)
theorem flt_12_40 : ((12 : Int32) < 40) = True := by decide
theorem fle_12_40 : ((12 : Int32) ≤ 40) = True := by decide
theorem flt_40_12 : ((40 : Int32) < 12) = False := by decide
theorem fle_40_12 : ((40 : Int32) ≤ 12) = False := by decide
theorem fe_12_40 : ((12 : Int32) = 40) = False := by decide
theorem qr_287_160_41 : urn 287 160 41 = some 202 := urn_at (by decide +kernel)
theorem qr_287_160_40 : urn 287 160 40 = some 201 := urn_at (by decide +kernel)
theorem qr_287_201_12 : urn 287 201 12 = some 173 := urn_at (by decide +kernel)
theorem tl_173 {n : Nat} (h : 173 < n) : (utn L fl n).2.1 173 = 16 := (utn_l h).trans (by decide +kernel)
theorem nw_233 : am_new 15 16 (usn xs 470) (urn 287) am_g0 (utn L fl 233) = (usn xs 470, urn 287, am_g0, utn L fl 234) := new_n (by decide +kernel) (by decide +kernel) (by decide +kernel) (by decide +kernel) (by decide +kernel) (by decide)
theorem wr_287 : am_u (urn 287) 202 12 (some 233) = urn 288 := urn_s (by decide +kernel)
theorem tk_233 {n : Nat} (h : 233 < n) : (utn L fl n).1 233 = 15 := (utn_k h).trans (by decide +kernel)
theorem flt_13_40 : ((13 : Int32) < 40) = True := by decide
theorem fle_13_40 : ((13 : Int32) ≤ 40) = True := by decide
theorem flt_40_13 : ((40 : Int32) < 13) = False := by decide
theorem fle_40_13 : ((40 : Int32) ≤ 13) = False := by decide
theorem fe_13_40 : ((13 : Int32) = 40) = False := by decide
theorem qr_288_160_41 : urn 288 160 41 = some 202 := urn_at (by decide +kernel)
theorem qr_288_160_40 : urn 288 160 40 = some 201 := urn_at (by decide +kernel)
theorem qr_288_201_13 : urn 288 201 13 = some 174 := urn_at (by decide +kernel)
theorem tl_174 {n : Nat} (h : 174 < n) : (utn L fl n).2.1 174 = 16 := (utn_l h).trans (by decide +kernel)
theorem nw_234 : am_new 15 16 (usn xs 470) (urn 288) am_g0 (utn L fl 234) = (usn xs 470, urn 288, am_g0, utn L fl 235) := new_n (by decide +kernel) (by decide +kernel) (by decide +kernel) (by decide +kernel) (by decide +kernel) (by decide)
theorem wr_288 : am_u (urn 288) 202 13 (some 234) = urn 289 := urn_s (by decide +kernel)
theorem tk_234 {n : Nat} (h : 234 < n) : (utn L fl n).1 234 = 15 := (utn_k h).trans (by decide +kernel)
theorem flt_14_40 : ((14 : Int32) < 40) = True := by decide
theorem fle_14_40 : ((14 : Int32) ≤ 40) = True := by decide
theorem flt_40_14 : ((40 : Int32) < 14) = False := by decide
theorem fle_40_14 : ((40 : Int32) ≤ 14) = False := by decide
theorem fe_14_40 : ((14 : Int32) = 40) = False := by decide
theorem qr_289_160_41 : urn 289 160 41 = some 202 := urn_at (by decide +kernel)
theorem qr_289_160_40 : urn 289 160 40 = some 201 := urn_at (by decide +kernel)
theorem qr_289_201_14 : urn 289 201 14 = some 175 := urn_at (by decide +kernel)
theorem tl_175 {n : Nat} (h : 175 < n) : (utn L fl n).2.1 175 = 16 := (utn_l h).trans (by decide +kernel)
theorem nw_235 : am_new 15 16 (usn xs 470) (urn 289) am_g0 (utn L fl 235) = (usn xs 470, urn 289, am_g0, utn L fl 236) := new_n (by decide +kernel) (by decide +kernel) (by decide +kernel) (by decide +kernel) (by decide +kernel) (by decide)
theorem wr_289 : am_u (urn 289) 202 14 (some 235) = urn 290 := urn_s (by decide +kernel)
theorem tk_235 {n : Nat} (h : 235 < n) : (utn L fl n).1 235 = 15 := (utn_k h).trans (by decide +kernel)
theorem flt_15_40 : ((15 : Int32) < 40) = True := by decide
theorem fle_15_40 : ((15 : Int32) ≤ 40) = True := by decide
theorem flt_40_15 : ((40 : Int32) < 15) = False := by decide
theorem fle_40_15 : ((40 : Int32) ≤ 15) = False := by decide
theorem fe_15_40 : ((15 : Int32) = 40) = False := by decide
theorem qr_290_160_41 : urn 290 160 41 = some 202 := urn_at (by decide +kernel)
theorem qr_290_160_40 : urn 290 160 40 = some 201 := urn_at (by decide +kernel)
theorem qr_290_201_15 : urn 290 201 15 = some 176 := urn_at (by decide +kernel)
theorem tl_176 {n : Nat} (h : 176 < n) : (utn L fl n).2.1 176 = 16 := (utn_l h).trans (by decide +kernel)
theorem nw_236 : am_new 15 16 (usn xs 470) (urn 290) am_g0 (utn L fl 236) = (usn xs 470, urn 290, am_g0, utn L fl 237) := new_n (by decide +kernel) (by decide +kernel) (by decide +kernel) (by decide +kernel) (by decide +kernel) (by decide)
theorem wr_290 : am_u (urn 290) 202 15 (some 236) = urn 291 := urn_s (by decide +kernel)
theorem tk_236 {n : Nat} (h : 236 < n) : (utn L fl n).1 236 = 15 := (utn_k h).trans (by decide +kernel)
theorem flt_16_40 : ((16 : Int32) < 40) = True := by decide
theorem fle_16_40 : ((16 : Int32) ≤ 40) = True := by decide
theorem flt_40_16 : ((40 : Int32) < 16) = False := by decide
theorem fle_40_16 : ((40 : Int32) ≤ 16) = False := by decide
theorem fe_16_40 : ((16 : Int32) = 40) = False := by decide
theorem qr_291_160_41 : urn 291 160 41 = some 202 := urn_at (by decide +kernel)
theorem qr_291_160_40 : urn 291 160 40 = some 201 := urn_at (by decide +kernel)
theorem qr_291_201_16 : urn 291 201 16 = some 177 := urn_at (by decide +kernel)
theorem tl_177 {n : Nat} (h : 177 < n) : (utn L fl n).2.1 177 = 16 := (utn_l h).trans (by decide +kernel)
theorem nw_237 : am_new 15 16 (usn xs 470) (urn 291) am_g0 (utn L fl 237) = (usn xs 470, urn 291, am_g0, utn L fl 238) := new_n (by decide +kernel) (by decide +kernel) (by decide +kernel) (by decide +kernel) (by decide +kernel) (by decide)
theorem wr_291 : am_u (urn 291) 202 16 (some 237) = urn 292 := urn_s (by decide +kernel)
theorem tk_237 {n : Nat} (h : 237 < n) : (utn L fl n).1 237 = 15 := (utn_k h).trans (by decide +kernel)
theorem fa_16_1 : (16 : Int32) + 1 = 17 := by decide
theorem flt_17_40 : ((17 : Int32) < 40) = True := by decide
theorem fle_17_40 : ((17 : Int32) ≤ 40) = True := by decide
theorem flt_40_17 : ((40 : Int32) < 17) = False := by decide
theorem fle_40_17 : ((40 : Int32) ≤ 17) = False := by decide
theorem fe_17_40 : ((17 : Int32) = 40) = False := by decide
theorem qr_292_160_41 : urn 292 160 41 = some 202 := urn_at (by decide +kernel)
theorem qr_292_160_40 : urn 292 160 40 = some 201 := urn_at (by decide +kernel)
theorem qr_292_201_17 : urn 292 201 17 = some 178 := urn_at (by decide +kernel)
theorem tl_178 {n : Nat} (h : 178 < n) : (utn L fl n).2.1 178 = 16 := (utn_l h).trans (by decide +kernel)
theorem nw_238 : am_new 15 16 (usn xs 470) (urn 292) am_g0 (utn L fl 238) = (usn xs 470, urn 292, am_g0, utn L fl 239) := new_n (by decide +kernel) (by decide +kernel) (by decide +kernel) (by decide +kernel) (by decide +kernel) (by decide)
theorem wr_292 : am_u (urn 292) 202 17 (some 238) = urn 293 := urn_s (by decide +kernel)
theorem tk_238 {n : Nat} (h : 238 < n) : (utn L fl n).1 238 = 15 := (utn_k h).trans (by decide +kernel)
theorem fa_17_1 : (17 : Int32) + 1 = 18 := by decide
theorem flt_18_40 : ((18 : Int32) < 40) = True := by decide
theorem fle_18_40 : ((18 : Int32) ≤ 40) = True := by decide
theorem flt_40_18 : ((40 : Int32) < 18) = False := by decide
theorem fle_40_18 : ((40 : Int32) ≤ 18) = False := by decide
theorem fe_18_40 : ((18 : Int32) = 40) = False := by decide
theorem qr_293_160_41 : urn 293 160 41 = some 202 := urn_at (by decide +kernel)
theorem qr_293_160_40 : urn 293 160 40 = some 201 := urn_at (by decide +kernel)
theorem qr_293_201_18 : urn 293 201 18 = some 179 := urn_at (by decide +kernel)
theorem tl_179 {n : Nat} (h : 179 < n) : (utn L fl n).2.1 179 = 112 := (utn_l h).trans (by decide +kernel)
theorem fn_112 : nI 112 = 112 := by decide
theorem nw_239 : am_new 15 112 (usn xs 470) (urn 293) am_g0 (utn L fl 239) = (usn xs 470, urn 293, am_g0, utn L fl 240) := new_n (by decide +kernel) (by decide +kernel) (by decide +kernel) (by decide +kernel) (by decide +kernel) (by decide)
theorem wr_293 : am_u (urn 293) 202 18 (some 239) = urn 294 := urn_s (by decide +kernel)
theorem tk_239 {n : Nat} (h : 239 < n) : (utn L fl n).1 239 = 15 := (utn_k h).trans (by decide +kernel)
theorem fa_18_1 : (18 : Int32) + 1 = 19 := by decide
theorem flt_19_40 : ((19 : Int32) < 40) = True := by decide
theorem fle_19_40 : ((19 : Int32) ≤ 40) = True := by decide
theorem flt_40_19 : ((40 : Int32) < 19) = False := by decide
theorem fle_40_19 : ((40 : Int32) ≤ 19) = False := by decide
theorem fe_19_40 : ((19 : Int32) = 40) = False := by decide
theorem qr_294_160_41 : urn 294 160 41 = some 202 := urn_at (by decide +kernel)
theorem qr_294_160_40 : urn 294 160 40 = some 201 := urn_at (by decide +kernel)
theorem qr_294_201_19 : urn 294 201 19 = some 180 := urn_at (by decide +kernel)
theorem tl_180 {n : Nat} (h : 180 < n) : (utn L fl n).2.1 180 = 9 := (utn_l h).trans (by decide +kernel)
theorem nw_240 : am_new 15 9 (usn xs 470) (urn 294) am_g0 (utn L fl 240) = (usn xs 470, urn 294, am_g0, utn L fl 241) := new_n (by decide +kernel) (by decide +kernel) (by decide +kernel) (by decide +kernel) (by decide +kernel) (by decide)
theorem wr_294 : am_u (urn 294) 202 19 (some 240) = urn 295 := urn_s (by decide +kernel)
theorem tk_240 {n : Nat} (h : 240 < n) : (utn L fl n).1 240 = 15 := (utn_k h).trans (by decide +kernel)
theorem fa_19_1 : (19 : Int32) + 1 = 20 := by decide
theorem flt_20_40 : ((20 : Int32) < 40) = True := by decide
theorem fle_20_40 : ((20 : Int32) ≤ 40) = True := by decide
theorem flt_40_20 : ((40 : Int32) < 20) = False := by decide
theorem fle_40_20 : ((40 : Int32) ≤ 20) = False := by decide
theorem fe_20_40 : ((20 : Int32) = 40) = False := by decide
theorem qr_295_160_41 : urn 295 160 41 = some 202 := urn_at (by decide +kernel)
theorem qr_295_160_40 : urn 295 160 40 = some 201 := urn_at (by decide +kernel)
theorem qr_295_201_20 : urn 295 201 20 = some 181 := urn_at (by decide +kernel)
theorem tl_181 {n : Nat} (h : 181 < n) : (utn L fl n).2.1 181 = 9 := (utn_l h).trans (by decide +kernel)
theorem nw_241 : am_new 15 9 (usn xs 470) (urn 295) am_g0 (utn L fl 241) = (usn xs 470, urn 295, am_g0, utn L fl 242) := new_n (by decide +kernel) (by decide +kernel) (by decide +kernel) (by decide +kernel) (by decide +kernel) (by decide)
theorem wr_295 : am_u (urn 295) 202 20 (some 241) = urn 296 := urn_s (by decide +kernel)
theorem tk_241 {n : Nat} (h : 241 < n) : (utn L fl n).1 241 = 15 := (utn_k h).trans (by decide +kernel)
theorem fa_20_1 : (20 : Int32) + 1 = 21 := by decide
theorem flt_21_40 : ((21 : Int32) < 40) = True := by decide
theorem fle_21_40 : ((21 : Int32) ≤ 40) = True := by decide
theorem flt_40_21 : ((40 : Int32) < 21) = False := by decide
theorem fle_40_21 : ((40 : Int32) ≤ 21) = False := by decide
theorem fe_21_40 : ((21 : Int32) = 40) = False := by decide
theorem qr_296_160_41 : urn 296 160 41 = some 202 := urn_at (by decide +kernel)
theorem qr_296_160_40 : urn 296 160 40 = some 201 := urn_at (by decide +kernel)
theorem qr_296_201_21 : urn 296 201 21 = some 182 := urn_at (by decide +kernel)
theorem tl_182 {n : Nat} (h : 182 < n) : (utn L fl n).2.1 182 = 90 := (utn_l h).trans (by decide +kernel)
theorem fn_90 : nI 90 = 90 := by decide
theorem nw_242 : am_new 15 90 (usn xs 470) (urn 296) am_g0 (utn L fl 242) = (usn xs 470, urn 296, am_g0, utn L fl 243) := new_n (by decide +kernel) (by decide +kernel) (by decide +kernel) (by decide +kernel) (by decide +kernel) (by decide)
theorem wr_296 : am_u (urn 296) 202 21 (some 242) = urn 297 := urn_s (by decide +kernel)
theorem tk_242 {n : Nat} (h : 242 < n) : (utn L fl n).1 242 = 15 := (utn_k h).trans (by decide +kernel)
theorem fa_21_1 : (21 : Int32) + 1 = 22 := by decide
theorem flt_22_40 : ((22 : Int32) < 40) = True := by decide
theorem fle_22_40 : ((22 : Int32) ≤ 40) = True := by decide
theorem flt_40_22 : ((40 : Int32) < 22) = False := by decide
theorem fle_40_22 : ((40 : Int32) ≤ 22) = False := by decide
theorem fe_22_40 : ((22 : Int32) = 40) = False := by decide
theorem qr_297_160_41 : urn 297 160 41 = some 202 := urn_at (by decide +kernel)
theorem qr_297_160_40 : urn 297 160 40 = some 201 := urn_at (by decide +kernel)
theorem qr_297_201_22 : urn 297 201 22 = some 183 := urn_at (by decide +kernel)
theorem tl_183 {n : Nat} (h : 183 < n) : (utn L fl n).2.1 183 = 90 := (utn_l h).trans (by decide +kernel)
theorem nw_243 : am_new 15 90 (usn xs 470) (urn 297) am_g0 (utn L fl 243) = (usn xs 470, urn 297, am_g0, utn L fl 244) := new_n (by decide +kernel) (by decide +kernel) (by decide +kernel) (by decide +kernel) (by decide +kernel) (by decide)
theorem wr_297 : am_u (urn 297) 202 22 (some 243) = urn 298 := urn_s (by decide +kernel)
theorem tk_243 {n : Nat} (h : 243 < n) : (utn L fl n).1 243 = 15 := (utn_k h).trans (by decide +kernel)
theorem fa_22_1 : (22 : Int32) + 1 = 23 := by decide
theorem flt_23_40 : ((23 : Int32) < 40) = True := by decide
theorem fle_23_40 : ((23 : Int32) ≤ 40) = True := by decide
theorem flt_40_23 : ((40 : Int32) < 23) = False := by decide
theorem fle_40_23 : ((40 : Int32) ≤ 23) = False := by decide
theorem fe_23_40 : ((23 : Int32) = 40) = False := by decide
theorem qr_298_160_41 : urn 298 160 41 = some 202 := urn_at (by decide +kernel)
theorem qr_298_160_40 : urn 298 160 40 = some 201 := urn_at (by decide +kernel)
theorem qr_298_201_23 : urn 298 201 23 = some 184 := urn_at (by decide +kernel)
theorem tl_184 {n : Nat} (h : 184 < n) : (utn L fl n).2.1 184 = 90 := (utn_l h).trans (by decide +kernel)
theorem nw_244 : am_new 15 90 (usn xs 470) (urn 298) am_g0 (utn L fl 244) = (usn xs 470, urn 298, am_g0, utn L fl 245) := new_n (by decide +kernel) (by decide +kernel) (by decide +kernel) (by decide +kernel) (by decide +kernel) (by decide)
theorem wr_298 : am_u (urn 298) 202 23 (some 244) = urn 299 := urn_s (by decide +kernel)
theorem tk_244 {n : Nat} (h : 244 < n) : (utn L fl n).1 244 = 15 := (utn_k h).trans (by decide +kernel)
theorem fa_23_1 : (23 : Int32) + 1 = 24 := by decide
theorem flt_24_40 : ((24 : Int32) < 40) = True := by decide
theorem fle_24_40 : ((24 : Int32) ≤ 40) = True := by decide
theorem flt_40_24 : ((40 : Int32) < 24) = False := by decide
theorem fle_40_24 : ((40 : Int32) ≤ 24) = False := by decide
theorem fe_24_40 : ((24 : Int32) = 40) = False := by decide
theorem qr_299_160_41 : urn 299 160 41 = some 202 := urn_at (by decide +kernel)
theorem qr_299_160_40 : urn 299 160 40 = some 201 := urn_at (by decide +kernel)
theorem qr_299_201_24 : urn 299 201 24 = some 185 := urn_at (by decide +kernel)
theorem tl_185 {n : Nat} (h : 185 < n) : (utn L fl n).2.1 185 = 90 := (utn_l h).trans (by decide +kernel)
theorem nw_245 : am_new 15 90 (usn xs 470) (urn 299) am_g0 (utn L fl 245) = (usn xs 470, urn 299, am_g0, utn L fl 246) := new_n (by decide +kernel) (by decide +kernel) (by decide +kernel) (by decide +kernel) (by decide +kernel) (by decide)
theorem wr_299 : am_u (urn 299) 202 24 (some 245) = urn 300 := urn_s (by decide +kernel)
theorem tk_245 {n : Nat} (h : 245 < n) : (utn L fl n).1 245 = 15 := (utn_k h).trans (by decide +kernel)
theorem fa_24_1 : (24 : Int32) + 1 = 25 := by decide
theorem flt_25_40 : ((25 : Int32) < 40) = True := by decide
theorem fle_25_40 : ((25 : Int32) ≤ 40) = True := by decide
theorem flt_40_25 : ((40 : Int32) < 25) = False := by decide
theorem fle_40_25 : ((40 : Int32) ≤ 25) = False := by decide
theorem fe_25_40 : ((25 : Int32) = 40) = False := by decide
theorem qr_300_160_41 : urn 300 160 41 = some 202 := urn_at (by decide +kernel)
theorem qr_300_160_40 : urn 300 160 40 = some 201 := urn_at (by decide +kernel)
theorem qr_300_201_25 : urn 300 201 25 = some 186 := urn_at (by decide +kernel)
theorem tl_186 {n : Nat} (h : 186 < n) : (utn L fl n).2.1 186 = 90 := (utn_l h).trans (by decide +kernel)
theorem nw_246 : am_new 15 90 (usn xs 470) (urn 300) am_g0 (utn L fl 246) = (usn xs 470, urn 300, am_g0, utn L fl 247) := new_n (by decide +kernel) (by decide +kernel) (by decide +kernel) (by decide +kernel) (by decide +kernel) (by decide)
theorem wr_300 : am_u (urn 300) 202 25 (some 246) = urn 301 := urn_s (by decide +kernel)
theorem tk_246 {n : Nat} (h : 246 < n) : (utn L fl n).1 246 = 15 := (utn_k h).trans (by decide +kernel)
theorem fa_25_1 : (25 : Int32) + 1 = 26 := by decide
theorem flt_26_40 : ((26 : Int32) < 40) = True := by decide
theorem fle_26_40 : ((26 : Int32) ≤ 40) = True := by decide
theorem flt_40_26 : ((40 : Int32) < 26) = False := by decide
theorem fle_40_26 : ((40 : Int32) ≤ 26) = False := by decide
theorem fe_26_40 : ((26 : Int32) = 40) = False := by decide
theorem qr_301_160_41 : urn 301 160 41 = some 202 := urn_at (by decide +kernel)
theorem qr_301_160_40 : urn 301 160 40 = some 201 := urn_at (by decide +kernel)
theorem qr_301_201_26 : urn 301 201 26 = some 187 := urn_at (by decide +kernel)
theorem tl_187 {n : Nat} (h : 187 < n) : (utn L fl n).2.1 187 = 2304 := (utn_l h).trans (by decide +kernel)
theorem fn_2304 : nI 2304 = 2304 := by decide
theorem nw_247 : am_new 15 2304 (usn xs 470) (urn 301) am_g0 (utn L fl 247) = (usn xs 470, urn 301, am_g0, utn L fl 248) := new_n (by decide +kernel) (by decide +kernel) (by decide +kernel) (by decide +kernel) (by decide +kernel) (by decide)
theorem wr_301 : am_u (urn 301) 202 26 (some 247) = urn 302 := urn_s (by decide +kernel)
theorem tk_247 {n : Nat} (h : 247 < n) : (utn L fl n).1 247 = 15 := (utn_k h).trans (by decide +kernel)
theorem fa_26_1 : (26 : Int32) + 1 = 27 := by decide
theorem flt_27_40 : ((27 : Int32) < 40) = True := by decide
theorem fle_27_40 : ((27 : Int32) ≤ 40) = True := by decide
theorem flt_40_27 : ((40 : Int32) < 27) = False := by decide
theorem fle_40_27 : ((40 : Int32) ≤ 27) = False := by decide
theorem fe_27_40 : ((27 : Int32) = 40) = False := by decide
theorem qr_302_160_41 : urn 302 160 41 = some 202 := urn_at (by decide +kernel)
theorem qr_302_160_40 : urn 302 160 40 = some 201 := urn_at (by decide +kernel)
theorem qr_302_201_27 : urn 302 201 27 = some 188 := urn_at (by decide +kernel)
theorem tl_188 {n : Nat} (h : 188 < n) : (utn L fl n).2.1 188 = 6 := (utn_l h).trans (by decide +kernel)
theorem fn_6 : nI 6 = 6 := by decide
theorem nw_248 : am_new 15 6 (usn xs 470) (urn 302) am_g0 (utn L fl 248) = (usn xs 470, urn 302, am_g0, utn L fl 249) := new_n (by decide +kernel) (by decide +kernel) (by decide +kernel) (by decide +kernel) (by decide +kernel) (by decide)
theorem wr_302 : am_u (urn 302) 202 27 (some 248) = urn 303 := urn_s (by decide +kernel)
theorem tk_248 {n : Nat} (h : 248 < n) : (utn L fl n).1 248 = 15 := (utn_k h).trans (by decide +kernel)
theorem fa_27_1 : (27 : Int32) + 1 = 28 := by decide
theorem flt_28_40 : ((28 : Int32) < 40) = True := by decide
theorem fle_28_40 : ((28 : Int32) ≤ 40) = True := by decide
theorem flt_40_28 : ((40 : Int32) < 28) = False := by decide
theorem fle_40_28 : ((40 : Int32) ≤ 28) = False := by decide
theorem fe_28_40 : ((28 : Int32) = 40) = False := by decide
theorem qr_303_160_41 : urn 303 160 41 = some 202 := urn_at (by decide +kernel)
theorem qr_303_160_40 : urn 303 160 40 = some 201 := urn_at (by decide +kernel)
theorem qr_303_201_28 : urn 303 201 28 = some 189 := urn_at (by decide +kernel)
theorem tl_189 {n : Nat} (h : 189 < n) : (utn L fl n).2.1 189 = 6 := (utn_l h).trans (by decide +kernel)
theorem nw_249 : am_new 15 6 (usn xs 470) (urn 303) am_g0 (utn L fl 249) = (usn xs 470, urn 303, am_g0, utn L fl 250) := new_n (by decide +kernel) (by decide +kernel) (by decide +kernel) (by decide +kernel) (by decide +kernel) (by decide)
theorem wr_303 : am_u (urn 303) 202 28 (some 249) = urn 304 := urn_s (by decide +kernel)
theorem tk_249 {n : Nat} (h : 249 < n) : (utn L fl n).1 249 = 15 := (utn_k h).trans (by decide +kernel)
theorem fa_28_1 : (28 : Int32) + 1 = 29 := by decide
theorem flt_29_40 : ((29 : Int32) < 40) = True := by decide
theorem fle_29_40 : ((29 : Int32) ≤ 40) = True := by decide
theorem flt_40_29 : ((40 : Int32) < 29) = False := by decide
theorem fle_40_29 : ((40 : Int32) ≤ 29) = False := by decide
theorem fe_29_40 : ((29 : Int32) = 40) = False := by decide
theorem qr_304_160_41 : urn 304 160 41 = some 202 := urn_at (by decide +kernel)
theorem qr_304_160_40 : urn 304 160 40 = some 201 := urn_at (by decide +kernel)
theorem qr_304_201_29 : urn 304 201 29 = some 190 := urn_at (by decide +kernel)
theorem tl_190 {n : Nat} (h : 190 < n) : (utn L fl n).2.1 190 = 6 := (utn_l h).trans (by decide +kernel)
theorem nw_250 : am_new 15 6 (usn xs 470) (urn 304) am_g0 (utn L fl 250) = (usn xs 470, urn 304, am_g0, utn L fl 251) := new_n (by decide +kernel) (by decide +kernel) (by decide +kernel) (by decide +kernel) (by decide +kernel) (by decide)
theorem wr_304 : am_u (urn 304) 202 29 (some 250) = urn 305 := urn_s (by decide +kernel)
theorem tk_250 {n : Nat} (h : 250 < n) : (utn L fl n).1 250 = 15 := (utn_k h).trans (by decide +kernel)
theorem fa_29_1 : (29 : Int32) + 1 = 30 := by decide
theorem flt_30_40 : ((30 : Int32) < 40) = True := by decide
theorem fle_30_40 : ((30 : Int32) ≤ 40) = True := by decide
theorem flt_40_30 : ((40 : Int32) < 30) = False := by decide
theorem fle_40_30 : ((40 : Int32) ≤ 30) = False := by decide
theorem fe_30_40 : ((30 : Int32) = 40) = False := by decide
theorem qr_305_160_41 : urn 305 160 41 = some 202 := urn_at (by decide +kernel)
theorem qr_305_160_40 : urn 305 160 40 = some 201 := urn_at (by decide +kernel)
theorem qr_305_201_30 : urn 305 201 30 = some 191 := urn_at (by decide +kernel)
theorem tl_191 {n : Nat} (h : 191 < n) : (utn L fl n).2.1 191 = 20 := (utn_l h).trans (by decide +kernel)
theorem fn_20 : nI 20 = 20 := by decide
theorem nw_251 : am_new 15 20 (usn xs 470) (urn 305) am_g0 (utn L fl 251) = (usn xs 470, urn 305, am_g0, utn L fl 252) := new_n (by decide +kernel) (by decide +kernel) (by decide +kernel) (by decide +kernel) (by decide +kernel) (by decide)
theorem wr_305 : am_u (urn 305) 202 30 (some 251) = urn 306 := urn_s (by decide +kernel)
theorem tk_251 {n : Nat} (h : 251 < n) : (utn L fl n).1 251 = 15 := (utn_k h).trans (by decide +kernel)
theorem fa_30_1 : (30 : Int32) + 1 = 31 := by decide
theorem flt_31_40 : ((31 : Int32) < 40) = True := by decide
theorem fle_31_40 : ((31 : Int32) ≤ 40) = True := by decide
theorem flt_40_31 : ((40 : Int32) < 31) = False := by decide
theorem fle_40_31 : ((40 : Int32) ≤ 31) = False := by decide
theorem fe_31_40 : ((31 : Int32) = 40) = False := by decide
theorem qr_306_160_41 : urn 306 160 41 = some 202 := urn_at (by decide +kernel)
theorem qr_306_160_40 : urn 306 160 40 = some 201 := urn_at (by decide +kernel)
theorem qr_306_201_31 : urn 306 201 31 = some 192 := urn_at (by decide +kernel)
theorem tl_192 {n : Nat} (h : 192 < n) : (utn L fl n).2.1 192 = 20 := (utn_l h).trans (by decide +kernel)
theorem nw_252 : am_new 15 20 (usn xs 470) (urn 306) am_g0 (utn L fl 252) = (usn xs 470, urn 306, am_g0, utn L fl 253) := new_n (by decide +kernel) (by decide +kernel) (by decide +kernel) (by decide +kernel) (by decide +kernel) (by decide)
theorem wr_306 : am_u (urn 306) 202 31 (some 252) = urn 307 := urn_s (by decide +kernel)
theorem tk_252 {n : Nat} (h : 252 < n) : (utn L fl n).1 252 = 15 := (utn_k h).trans (by decide +kernel)
theorem fa_31_1 : (31 : Int32) + 1 = 32 := by decide
theorem flt_32_40 : ((32 : Int32) < 40) = True := by decide
theorem fle_32_40 : ((32 : Int32) ≤ 40) = True := by decide
theorem flt_40_32 : ((40 : Int32) < 32) = False := by decide
theorem fle_40_32 : ((40 : Int32) ≤ 32) = False := by decide
theorem fe_32_40 : ((32 : Int32) = 40) = False := by decide
theorem qr_307_160_41 : urn 307 160 41 = some 202 := urn_at (by decide +kernel)
theorem qr_307_160_40 : urn 307 160 40 = some 201 := urn_at (by decide +kernel)
theorem qr_307_201_32 : urn 307 201 32 = some 193 := urn_at (by decide +kernel)
theorem tl_193 {n : Nat} (h : 193 < n) : (utn L fl n).2.1 193 = 20 := (utn_l h).trans (by decide +kernel)
theorem nw_253 : am_new 15 20 (usn xs 470) (urn 307) am_g0 (utn L fl 253) = (usn xs 470, urn 307, am_g0, utn L fl 254) := new_n (by decide +kernel) (by decide +kernel) (by decide +kernel) (by decide +kernel) (by decide +kernel) (by decide)
theorem wr_307 : am_u (urn 307) 202 32 (some 253) = urn 308 := urn_s (by decide +kernel)
theorem tk_253 {n : Nat} (h : 253 < n) : (utn L fl n).1 253 = 15 := (utn_k h).trans (by decide +kernel)
theorem fa_32_1 : (32 : Int32) + 1 = 33 := by decide
theorem flt_33_40 : ((33 : Int32) < 40) = True := by decide
theorem fle_33_40 : ((33 : Int32) ≤ 40) = True := by decide
theorem flt_40_33 : ((40 : Int32) < 33) = False := by decide
theorem fle_40_33 : ((40 : Int32) ≤ 33) = False := by decide
theorem fe_33_40 : ((33 : Int32) = 40) = False := by decide
theorem qr_308_160_41 : urn 308 160 41 = some 202 := urn_at (by decide +kernel)
theorem qr_308_160_40 : urn 308 160 40 = some 201 := urn_at (by decide +kernel)
theorem qr_308_201_33 : urn 308 201 33 = some 194 := urn_at (by decide +kernel)
theorem tl_194 {n : Nat} (h : 194 < n) : (utn L fl n).2.1 194 = 20 := (utn_l h).trans (by decide +kernel)
theorem nw_254 : am_new 15 20 (usn xs 470) (urn 308) am_g0 (utn L fl 254) = (usn xs 470, urn 308, am_g0, utn L fl 255) := new_n (by decide +kernel) (by decide +kernel) (by decide +kernel) (by decide +kernel) (by decide +kernel) (by decide)
theorem wr_308 : am_u (urn 308) 202 33 (some 254) = urn 309 := urn_s (by decide +kernel)
theorem tk_254 {n : Nat} (h : 254 < n) : (utn L fl n).1 254 = 15 := (utn_k h).trans (by decide +kernel)
theorem fa_33_1 : (33 : Int32) + 1 = 34 := by decide
theorem flt_34_40 : ((34 : Int32) < 40) = True := by decide
theorem fle_34_40 : ((34 : Int32) ≤ 40) = True := by decide
theorem flt_40_34 : ((40 : Int32) < 34) = False := by decide
theorem fle_40_34 : ((40 : Int32) ≤ 34) = False := by decide
theorem fe_34_40 : ((34 : Int32) = 40) = False := by decide
theorem qr_309_160_41 : urn 309 160 41 = some 202 := urn_at (by decide +kernel)
theorem qr_309_160_40 : urn 309 160 40 = some 201 := urn_at (by decide +kernel)
theorem qr_309_201_34 : urn 309 201 34 = some 195 := urn_at (by decide +kernel)
theorem tl_195 {n : Nat} (h : 195 < n) : (utn L fl n).2.1 195 = 20 := (utn_l h).trans (by decide +kernel)
theorem nw_255 : am_new 15 20 (usn xs 470) (urn 309) am_g0 (utn L fl 255) = (usn xs 470, urn 309, am_g0, utn L fl 256) := new_n (by decide +kernel) (by decide +kernel) (by decide +kernel) (by decide +kernel) (by decide +kernel) (by decide)
theorem wr_309 : am_u (urn 309) 202 34 (some 255) = urn 310 := urn_s (by decide +kernel)
theorem tk_255 {n : Nat} (h : 255 < n) : (utn L fl n).1 255 = 15 := (utn_k h).trans (by decide +kernel)
theorem fa_34_1 : (34 : Int32) + 1 = 35 := by decide
theorem flt_35_40 : ((35 : Int32) < 40) = True := by decide
theorem fle_35_40 : ((35 : Int32) ≤ 40) = True := by decide
theorem flt_40_35 : ((40 : Int32) < 35) = False := by decide
theorem fle_40_35 : ((40 : Int32) ≤ 35) = False := by decide
theorem fe_35_40 : ((35 : Int32) = 40) = False := by decide
theorem qr_310_160_41 : urn 310 160 41 = some 202 := urn_at (by decide +kernel)
theorem qr_310_160_40 : urn 310 160 40 = some 201 := urn_at (by decide +kernel)
theorem qr_310_201_35 : urn 310 201 35 = some 196 := urn_at (by decide +kernel)
theorem tl_196 {n : Nat} (h : 196 < n) : (utn L fl n).2.1 196 = 16 := (utn_l h).trans (by decide +kernel)
theorem nw_256 : am_new 15 16 (usn xs 470) (urn 310) am_g0 (utn L fl 256) = (usn xs 470, urn 310, am_g0, utn L fl 257) := new_n (by decide +kernel) (by decide +kernel) (by decide +kernel) (by decide +kernel) (by decide +kernel) (by decide)
theorem wr_310 : am_u (urn 310) 202 35 (some 256) = urn 311 := urn_s (by decide +kernel)
theorem tk_256 {n : Nat} (h : 256 < n) : (utn L fl n).1 256 = 15 := (utn_k h).trans (by decide +kernel)
theorem fa_35_1 : (35 : Int32) + 1 = 36 := by decide
theorem flt_36_40 : ((36 : Int32) < 40) = True := by decide
theorem fle_36_40 : ((36 : Int32) ≤ 40) = True := by decide
theorem flt_40_36 : ((40 : Int32) < 36) = False := by decide
theorem fle_40_36 : ((40 : Int32) ≤ 36) = False := by decide
theorem fe_36_40 : ((36 : Int32) = 40) = False := by decide
theorem qr_311_160_41 : urn 311 160 41 = some 202 := urn_at (by decide +kernel)
theorem qr_311_160_40 : urn 311 160 40 = some 201 := urn_at (by decide +kernel)
theorem qr_311_201_36 : urn 311 201 36 = some 197 := urn_at (by decide +kernel)
theorem tl_197 {n : Nat} (h : 197 < n) : (utn L fl n).2.1 197 = 16 := (utn_l h).trans (by decide +kernel)
theorem nw_257 : am_new 15 16 (usn xs 470) (urn 311) am_g0 (utn L fl 257) = (usn xs 470, urn 311, am_g0, utn L fl 258) := new_n (by decide +kernel) (by decide +kernel) (by decide +kernel) (by decide +kernel) (by decide +kernel) (by decide)
theorem wr_311 : am_u (urn 311) 202 36 (some 257) = urn 312 := urn_s (by decide +kernel)
theorem tk_257 {n : Nat} (h : 257 < n) : (utn L fl n).1 257 = 15 := (utn_k h).trans (by decide +kernel)
theorem fa_36_1 : (36 : Int32) + 1 = 37 := by decide
theorem flt_37_40 : ((37 : Int32) < 40) = True := by decide
theorem fle_37_40 : ((37 : Int32) ≤ 40) = True := by decide
theorem flt_40_37 : ((40 : Int32) < 37) = False := by decide
theorem fle_40_37 : ((40 : Int32) ≤ 37) = False := by decide
theorem fe_37_40 : ((37 : Int32) = 40) = False := by decide
theorem qr_312_160_41 : urn 312 160 41 = some 202 := urn_at (by decide +kernel)
theorem qr_312_160_40 : urn 312 160 40 = some 201 := urn_at (by decide +kernel)
theorem qr_312_201_37 : urn 312 201 37 = some 198 := urn_at (by decide +kernel)
theorem tl_198 {n : Nat} (h : 198 < n) : (utn L fl n).2.1 198 = 16 := (utn_l h).trans (by decide +kernel)
theorem nw_258 : am_new 15 16 (usn xs 470) (urn 312) am_g0 (utn L fl 258) = (usn xs 470, urn 312, am_g0, utn L fl 259) := new_n (by decide +kernel) (by decide +kernel) (by decide +kernel) (by decide +kernel) (by decide +kernel) (by decide)
theorem wr_312 : am_u (urn 312) 202 37 (some 258) = urn 313 := urn_s (by decide +kernel)
theorem tk_258 {n : Nat} (h : 258 < n) : (utn L fl n).1 258 = 15 := (utn_k h).trans (by decide +kernel)
theorem fa_37_1 : (37 : Int32) + 1 = 38 := by decide
theorem flt_38_40 : ((38 : Int32) < 40) = True := by decide
theorem fle_38_40 : ((38 : Int32) ≤ 40) = True := by decide
theorem flt_40_38 : ((40 : Int32) < 38) = False := by decide
theorem fle_40_38 : ((40 : Int32) ≤ 38) = False := by decide
theorem fe_38_40 : ((38 : Int32) = 40) = False := by decide
theorem qr_313_160_41 : urn 313 160 41 = some 202 := urn_at (by decide +kernel)
theorem qr_313_160_40 : urn 313 160 40 = some 201 := urn_at (by decide +kernel)
theorem qr_313_201_38 : urn 313 201 38 = some 199 := urn_at (by decide +kernel)
theorem tl_199 {n : Nat} (h : 199 < n) : (utn L fl n).2.1 199 = 24 := (utn_l h).trans (by decide +kernel)
theorem nw_259 : am_new 15 24 (usn xs 470) (urn 313) am_g0 (utn L fl 259) = (usn xs 470, urn 313, am_g0, utn L fl 260) := new_n (by decide +kernel) (by decide +kernel) (by decide +kernel) (by decide +kernel) (by decide +kernel) (by decide)
theorem wr_313 : am_u (urn 313) 202 38 (some 259) = urn 314 := urn_s (by decide +kernel)
theorem tk_259 {n : Nat} (h : 259 < n) : (utn L fl n).1 259 = 15 := (utn_k h).trans (by decide +kernel)
theorem fa_38_1 : (38 : Int32) + 1 = 39 := by decide
theorem flt_39_40 : ((39 : Int32) < 40) = True := by decide
theorem fle_39_40 : ((39 : Int32) ≤ 40) = True := by decide
theorem flt_40_39 : ((40 : Int32) < 39) = False := by decide
theorem fle_40_39 : ((40 : Int32) ≤ 39) = False := by decide
theorem fe_39_40 : ((39 : Int32) = 40) = False := by decide
theorem qr_314_160_41 : urn 314 160 41 = some 202 := urn_at (by decide +kernel)
theorem qr_314_160_40 : urn 314 160 40 = some 201 := urn_at (by decide +kernel)
theorem qr_314_201_39 : urn 314 201 39 = some 200 := urn_at (by decide +kernel)
theorem tl_200 {n : Nat} (h : 200 < n) : (utn L fl n).2.1 200 = 8 := (utn_l h).trans (by decide +kernel)
theorem nw_260 : am_new 15 8 (usn xs 470) (urn 314) am_g0 (utn L fl 260) = (usn xs 470, urn 314, am_g0, utn L fl 261) := new_n (by decide +kernel) (by decide +kernel) (by decide +kernel) (by decide +kernel) (by decide +kernel) (by decide)
theorem wr_314 : am_u (urn 314) 202 39 (some 260) = urn 315 := urn_s (by decide +kernel)
theorem tk_260 {n : Nat} (h : 260 < n) : (utn L fl n).1 260 = 15 := (utn_k h).trans (by decide +kernel)
theorem fa_39_1 : (39 : Int32) + 1 = 40 := by decide
theorem flt_40_40 : ((40 : Int32) < 40) = False := by decide
theorem fle_40_40 : ((40 : Int32) ≤ 40) = True := by decide
theorem fx_18 {d : Nat} {Q : am_Q} : AW d 275 0 [.ref 2, .int 10, am_jk, am_jk] [] (usn xs 18) (urn 16) am_g0 (utn L fl 18) Q = Q none (usn xs 21) (urn 16) am_g0 (utn L fl 18) := by
  rw [c275 (n := 3) (tk_2 (by decide)) (tl_2 (by decide)) (by decide) (by decide), fill_u (by decide +kernel)]
theorem fx_21 {d : Nat} {Q : am_Q} : AW d 275 0 [.ref 3, .int 100, am_jk, am_jk] [] (usn xs 21) (urn 16) am_g0 (utn L fl 18) Q = Q none (usn xs 33) (urn 16) am_g0 (utn L fl 18) := by
  rw [c275 (n := 12) (tk_3 (by decide)) (tl_3 (by decide)) (by decide) (by decide), fill_u (by decide +kernel)]
theorem fx_227 {d : Nat} {Q : am_Q} : AW d 275 0 [.ref 67, .int 10, am_jk, am_jk] [] (usn xs 227) (urn 89) am_g0 (utn L fl 83) Q = Q none (usn xs 230) (urn 89) am_g0 (utn L fl 83) := by
  rw [c275 (n := 3) (tk_67 (by decide)) (tl_67 (by decide)) (by decide) (by decide), fill_u (by decide +kernel)]
theorem fx_230 {d : Nat} {Q : am_Q} : AW d 275 0 [.ref 68, .int 100, am_jk, am_jk] [] (usn xs 230) (urn 89) am_g0 (utn L fl 83) Q = Q none (usn xs 242) (urn 89) am_g0 (utn L fl 83) := by
  rw [c275 (n := 12) (tk_68 (by decide)) (tl_68 (by decide)) (by decide) (by decide), fill_u (by decide +kernel)]
theorem fx_433 {d : Nat} {Q : am_Q} : AW d 275 0 [.ref 146, .int (-1), am_jk, am_jk] [] (usn xs 433) (urn 170) am_g0 (utn L fl 156) Q = Q none (usn xs 437) (urn 170) am_g0 (utn L fl 156) := by
  rw [c275 (n := 4) (tk_146 (by decide)) (tl_146 (by decide)) (by decide) (by decide), fill_u (by decide +kernel)]
theorem fx_437 {d : Nat} {Q : am_Q} : AW d 275 0 [.ref 153, .int 3, am_jk, am_jk] [] (usn xs 437) (urn 170) am_g0 (utn L fl 156) Q = Q none (usn xs 441) (urn 170) am_g0 (utn L fl 156) := by
  rw [c275 (n := 4) (tk_153 (by decide)) (tl_153 (by decide)) (by decide) (by decide), fill_u (by decide +kernel)]
end CTB
