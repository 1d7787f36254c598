theorem all_fr_1_0 : (op_b fr_1 = true) ∧ (mm_isObj fr_1 77 11 = true) := by decide +kernel
theorem fC_fr_1 : op_b fr_1 = true := all_fr_1_0.1
theorem fO_fr_1_77_11 : mm_isObj fr_1 77 11 = true := all_fr_1_0.2
theorem all_fr_10_0 : (op_b fr_10 = true) ∧ (fr_10.2.1 100 0 = (0 : Int32)) ∧ (fr_10.2.1 100 1 = (0 : Int32)) ∧ (fr_10.2.1 100 2 = (0 : Int32)) ∧ (fr_10.2.1 100 3 = (0 : Int32)) ∧ (fr_10.2.1 100 4 = (0 : Int32)) ∧ (fr_10.2.1 100 5 = (0 : Int32)) ∧ (fr_10.2.1 25 0 = (0 : Int32)) ∧ (fr_10.2.1 25 1 = (0 : Int32)) ∧ (fr_10.2.1 25 2 = (0 : Int32)) ∧ (fr_10.2.1 25 3 = (0 : Int32)) ∧ (fr_10.2.1 25 4 = (0 : Int32)) ∧ (fr_10.2.1 25 5 = (0 : Int32)) ∧ (fr_10.2.1 49 0 = (10 : Int32)) := by decide +kernel
theorem fC_fr_10 : op_b fr_10 = true := all_fr_10_0.1
theorem fI_fr_10_100_0 : fr_10.2.1 100 0 = (0 : Int32) := all_fr_10_0.2.1
theorem fI_fr_10_100_1 : fr_10.2.1 100 1 = (0 : Int32) := all_fr_10_0.2.2.1
theorem fI_fr_10_100_2 : fr_10.2.1 100 2 = (0 : Int32) := all_fr_10_0.2.2.2.1
theorem fI_fr_10_100_3 : fr_10.2.1 100 3 = (0 : Int32) := all_fr_10_0.2.2.2.2.1
theorem fI_fr_10_100_4 : fr_10.2.1 100 4 = (0 : Int32) := all_fr_10_0.2.2.2.2.2.1
theorem fI_fr_10_100_5 : fr_10.2.1 100 5 = (0 : Int32) := all_fr_10_0.2.2.2.2.2.2.1
theorem fI_fr_10_25_0 : fr_10.2.1 25 0 = (0 : Int32) := all_fr_10_0.2.2.2.2.2.2.2.1
theorem fI_fr_10_25_1 : fr_10.2.1 25 1 = (0 : Int32) := all_fr_10_0.2.2.2.2.2.2.2.2.1
theorem fI_fr_10_25_2 : fr_10.2.1 25 2 = (0 : Int32) := all_fr_10_0.2.2.2.2.2.2.2.2.2.1
theorem fI_fr_10_25_3 : fr_10.2.1 25 3 = (0 : Int32) := all_fr_10_0.2.2.2.2.2.2.2.2.2.2.1
theorem fI_fr_10_25_4 : fr_10.2.1 25 4 = (0 : Int32) := all_fr_10_0.2.2.2.2.2.2.2.2.2.2.2.1
theorem fI_fr_10_25_5 : fr_10.2.1 25 5 = (0 : Int32) := all_fr_10_0.2.2.2.2.2.2.2.2.2.2.2.2.1
theorem fI_fr_10_49_0 : fr_10.2.1 49 0 = (10 : Int32) := all_fr_10_0.2.2.2.2.2.2.2.2.2.2.2.2.2
theorem all_fr_10_14 : (fr_10.2.1 77 13 = (0 : Int32)) ∧ (fr_10.2.1 77 28 = (0 : Int32)) ∧ (fr_10.2.1 77 29 = (0 : Int32)) ∧ (fr_10.1.1.2.2 100 = 6) ∧ (fr_10.1.1.2.2 25 = 6) ∧ (mm_isObj fr_10 0 10 = true) ∧ (mm_isObj fr_10 100 100 = true) ∧ (mm_isObj fr_10 17 4 = true) ∧ (mm_isObj fr_10 25 100 = true) ∧ (mm_isObj fr_10 49 5 = true) ∧ (mm_isObj fr_10 77 11 = true) ∧ (fr_10.2.2.2 0 3 = some 17) ∧ (fr_10.2.2.2 0 8 = some 49) ∧ (fr_10.2.2.2 17 1 = some 25) := by decide +kernel
theorem fI_fr_10_77_13 : fr_10.2.1 77 13 = (0 : Int32) := all_fr_10_14.1
theorem fI_fr_10_77_28 : fr_10.2.1 77 28 = (0 : Int32) := all_fr_10_14.2.1
theorem fI_fr_10_77_29 : fr_10.2.1 77 29 = (0 : Int32) := all_fr_10_14.2.2.1
theorem fN_fr_10_100_0 : fr_10.1.1.2.2 100 = 6 := all_fr_10_14.2.2.2.1
theorem fN_fr_10_25_0 : fr_10.1.1.2.2 25 = 6 := all_fr_10_14.2.2.2.2.1
theorem fO_fr_10_0_10 : mm_isObj fr_10 0 10 = true := all_fr_10_14.2.2.2.2.2.1
theorem fO_fr_10_100_100 : mm_isObj fr_10 100 100 = true := all_fr_10_14.2.2.2.2.2.2.1
theorem fO_fr_10_17_4 : mm_isObj fr_10 17 4 = true := all_fr_10_14.2.2.2.2.2.2.2.1
theorem fO_fr_10_25_100 : mm_isObj fr_10 25 100 = true := all_fr_10_14.2.2.2.2.2.2.2.2.1
theorem fO_fr_10_49_5 : mm_isObj fr_10 49 5 = true := all_fr_10_14.2.2.2.2.2.2.2.2.2.1
theorem fO_fr_10_77_11 : mm_isObj fr_10 77 11 = true := all_fr_10_14.2.2.2.2.2.2.2.2.2.2.1
theorem fR_fr_10_0_3 : fr_10.2.2.2 0 3 = some 17 := all_fr_10_14.2.2.2.2.2.2.2.2.2.2.2.1
theorem fR_fr_10_0_8 : fr_10.2.2.2 0 8 = some 49 := all_fr_10_14.2.2.2.2.2.2.2.2.2.2.2.2.1
theorem fR_fr_10_17_1 : fr_10.2.2.2 17 1 = some 25 := all_fr_10_14.2.2.2.2.2.2.2.2.2.2.2.2.2
theorem all_fr_10_28 : (fr_10.2.2.2 77 40 = some 100) := by decide +kernel
theorem fR_fr_10_77_40 : fr_10.2.2.2 77 40 = some 100 := all_fr_10_28
theorem all_fr_11_0 : (op_b fr_11 = true) ∧ (mm_isObj fr_11 77 11 = true) := by decide +kernel
theorem fC_fr_11 : op_b fr_11 = true := all_fr_11_0.1
theorem fO_fr_11_77_11 : mm_isObj fr_11 77 11 = true := all_fr_11_0.2
theorem all_fr_12_0 : (op_b fr_12 = true) := by decide +kernel
theorem fC_fr_12 : op_b fr_12 = true := all_fr_12_0
theorem all_fr_2_0 : (op_b fr_2 = true) := by decide +kernel
theorem fC_fr_2 : op_b fr_2 = true := all_fr_2_0
theorem all_fr_3_0 : (op_b fr_3 = true) ∧ (mm_isObj fr_3 77 11 = true) := by decide +kernel
theorem fC_fr_3 : op_b fr_3 = true := all_fr_3_0.1
theorem fO_fr_3_77_11 : mm_isObj fr_3 77 11 = true := all_fr_3_0.2
theorem all_fr_4_0 : (op_b fr_4 = true) := by decide +kernel
theorem fC_fr_4 : op_b fr_4 = true := all_fr_4_0
theorem all_fr_5_0 : (op_b fr_5 = true) ∧ (mm_isObj fr_5 77 11 = true) := by decide +kernel
theorem fC_fr_5 : op_b fr_5 = true := all_fr_5_0.1
theorem fO_fr_5_77_11 : mm_isObj fr_5 77 11 = true := all_fr_5_0.2
theorem all_fr_6_0 : (op_b fr_6 = true) := by decide +kernel
theorem fC_fr_6 : op_b fr_6 = true := all_fr_6_0
theorem all_fr_7_0 : (op_b fr_7 = true) ∧ (mm_isObj fr_7 77 11 = true) := by decide +kernel
theorem fC_fr_7 : op_b fr_7 = true := all_fr_7_0.1
theorem fO_fr_7_77_11 : mm_isObj fr_7 77 11 = true := all_fr_7_0.2
theorem all_fr_8_0 : (op_b fr_8 = true) := by decide +kernel
theorem fC_fr_8 : op_b fr_8 = true := all_fr_8_0
theorem all_fr_9_0 : (op_b fr_9 = true) ∧ (fr_9.2.1 49 0 = (10 : Int32)) ∧ (mm_isObj fr_9 0 10 = true) ∧ (mm_isObj fr_9 17 4 = true) ∧ (mm_isObj fr_9 49 5 = true) ∧ (fr_9.2.2.2 0 2 = some 11) ∧ (fr_9.2.2.2 0 3 = some 17) ∧ (fr_9.2.2.2 0 8 = some 49) := by decide +kernel
theorem fC_fr_9 : op_b fr_9 = true := all_fr_9_0.1
theorem fI_fr_9_49_0 : fr_9.2.1 49 0 = (10 : Int32) := all_fr_9_0.2.1
theorem fO_fr_9_0_10 : mm_isObj fr_9 0 10 = true := all_fr_9_0.2.2.1
theorem fO_fr_9_17_4 : mm_isObj fr_9 17 4 = true := all_fr_9_0.2.2.2.1
theorem fO_fr_9_49_5 : mm_isObj fr_9 49 5 = true := all_fr_9_0.2.2.2.2.1
theorem fR_fr_9_0_2 : fr_9.2.2.2 0 2 = some 11 := all_fr_9_0.2.2.2.2.2.1
theorem fR_fr_9_0_3 : fr_9.2.2.2 0 3 = some 17 := all_fr_9_0.2.2.2.2.2.2.1
theorem fR_fr_9_0_8 : fr_9.2.2.2 0 8 = some 49 := all_fr_9_0.2.2.2.2.2.2.2
theorem all_fr_A_0 : ((Nat.beq fr_A.1.2.2.2 0 && Nat.blt fr_A.1.1.1 900000) = true ∧ fr_A.1.1.1 = 77) := by decide +kernel
theorem fr_A1 : (Nat.beq fr_A.1.2.2.2 0 && Nat.blt fr_A.1.1.1 900000) = true ∧ fr_A.1.1.1 = 77 := all_fr_A_0
theorem all_fr_B_0 : ((Nat.beq fr_B.1.2.2.2 0 && Nat.blt fr_B.1.1.1 900000) = true ∧ fr_B.1.1.1 = 125) := by decide +kernel
theorem fr_B1 : (Nat.beq fr_B.1.2.2.2 0 && Nat.blt fr_B.1.1.1 900000) = true ∧ fr_B.1.1.1 = 125 := all_fr_B_0
theorem all_fr_M_0 : (op_b fr_M = true) ∧ (fr_M.2.1 0 12 = (0 : Int32)) ∧ (fr_M.2.1 100 0 = (0 : Int32)) ∧ (fr_M.2.1 100 1 = (0 : Int32)) ∧ (fr_M.2.1 100 2 = (0 : Int32)) ∧ (fr_M.2.1 100 3 = (0 : Int32)) ∧ (fr_M.2.1 100 4 = (0 : Int32)) ∧ (fr_M.2.1 100 5 = (0 : Int32)) ∧ (fr_M.2.1 17 4 = (0 : Int32)) ∧ (fr_M.2.1 1 1 = (0 : Int32)) ∧ (fr_M.2.1 1 10 = (0 : Int32)) ∧ (fr_M.2.1 1 11 = (-1 : Int32)) ∧ (fr_M.2.1 25 0 = (0 : Int32)) ∧ (fr_M.2.1 25 1 = (0 : Int32)) := by decide +kernel
theorem fC_fr_M : op_b fr_M = true := all_fr_M_0.1
theorem fI_fr_M_0_12 : fr_M.2.1 0 12 = (0 : Int32) := all_fr_M_0.2.1
theorem fI_fr_M_100_0 : fr_M.2.1 100 0 = (0 : Int32) := all_fr_M_0.2.2.1
theorem fI_fr_M_100_1 : fr_M.2.1 100 1 = (0 : Int32) := all_fr_M_0.2.2.2.1
theorem fI_fr_M_100_2 : fr_M.2.1 100 2 = (0 : Int32) := all_fr_M_0.2.2.2.2.1
theorem fI_fr_M_100_3 : fr_M.2.1 100 3 = (0 : Int32) := all_fr_M_0.2.2.2.2.2.1
theorem fI_fr_M_100_4 : fr_M.2.1 100 4 = (0 : Int32) := all_fr_M_0.2.2.2.2.2.2.1
theorem fI_fr_M_100_5 : fr_M.2.1 100 5 = (0 : Int32) := all_fr_M_0.2.2.2.2.2.2.2.1
theorem fI_fr_M_17_4 : fr_M.2.1 17 4 = (0 : Int32) := all_fr_M_0.2.2.2.2.2.2.2.2.1
theorem fI_fr_M_1_1 : fr_M.2.1 1 1 = (0 : Int32) := all_fr_M_0.2.2.2.2.2.2.2.2.2.1
theorem fI_fr_M_1_10 : fr_M.2.1 1 10 = (0 : Int32) := all_fr_M_0.2.2.2.2.2.2.2.2.2.2.1
theorem fI_fr_M_1_11 : fr_M.2.1 1 11 = (-1 : Int32) := all_fr_M_0.2.2.2.2.2.2.2.2.2.2.2.1
theorem fI_fr_M_25_0 : fr_M.2.1 25 0 = (0 : Int32) := all_fr_M_0.2.2.2.2.2.2.2.2.2.2.2.2.1
theorem fI_fr_M_25_1 : fr_M.2.1 25 1 = (0 : Int32) := all_fr_M_0.2.2.2.2.2.2.2.2.2.2.2.2.2
theorem all_fr_M_14 : (fr_M.2.1 25 2 = (0 : Int32)) ∧ (fr_M.2.1 25 3 = (0 : Int32)) ∧ (fr_M.2.1 25 4 = (0 : Int32)) ∧ (fr_M.2.1 25 5 = (0 : Int32)) ∧ (fr_M.2.1 28 8 = (0 : Int32)) ∧ (fr_M.2.1 28 9 = (0 : Int32)) ∧ (fr_M.2.1 49 0 = (10 : Int32)) ∧ (fr_M.2.1 49 2 = (0 : Int32)) ∧ (fr_M.2.1 49 3 = (0 : Int32)) ∧ (fr_M.2.1 67 4 = (0 : Int32)) ∧ (fr_M.2.1 6 0 = (0 : Int32)) ∧ (fr_M.2.1 77 1 = (0 : Int32)) ∧ (fr_M.2.1 77 11 = (10 : Int32)) ∧ (fr_M.2.1 77 12 = (0 : Int32)) := by decide +kernel
theorem fI_fr_M_25_2 : fr_M.2.1 25 2 = (0 : Int32) := all_fr_M_14.1
theorem fI_fr_M_25_3 : fr_M.2.1 25 3 = (0 : Int32) := all_fr_M_14.2.1
theorem fI_fr_M_25_4 : fr_M.2.1 25 4 = (0 : Int32) := all_fr_M_14.2.2.1
theorem fI_fr_M_25_5 : fr_M.2.1 25 5 = (0 : Int32) := all_fr_M_14.2.2.2.1
theorem fI_fr_M_28_8 : fr_M.2.1 28 8 = (0 : Int32) := all_fr_M_14.2.2.2.2.1
theorem fI_fr_M_28_9 : fr_M.2.1 28 9 = (0 : Int32) := all_fr_M_14.2.2.2.2.2.1
theorem fI_fr_M_49_0 : fr_M.2.1 49 0 = (10 : Int32) := all_fr_M_14.2.2.2.2.2.2.1
theorem fI_fr_M_49_2 : fr_M.2.1 49 2 = (0 : Int32) := all_fr_M_14.2.2.2.2.2.2.2.1
theorem fI_fr_M_49_3 : fr_M.2.1 49 3 = (0 : Int32) := all_fr_M_14.2.2.2.2.2.2.2.2.1
theorem fI_fr_M_67_4 : fr_M.2.1 67 4 = (0 : Int32) := all_fr_M_14.2.2.2.2.2.2.2.2.2.1
theorem fI_fr_M_6_0 : fr_M.2.1 6 0 = (0 : Int32) := all_fr_M_14.2.2.2.2.2.2.2.2.2.2.1
theorem fI_fr_M_77_1 : fr_M.2.1 77 1 = (0 : Int32) := all_fr_M_14.2.2.2.2.2.2.2.2.2.2.2.1
theorem fI_fr_M_77_11 : fr_M.2.1 77 11 = (10 : Int32) := all_fr_M_14.2.2.2.2.2.2.2.2.2.2.2.2.1
theorem fI_fr_M_77_12 : fr_M.2.1 77 12 = (0 : Int32) := all_fr_M_14.2.2.2.2.2.2.2.2.2.2.2.2.2
theorem all_fr_M_28 : (fr_M.2.1 77 13 = (0 : Int32)) ∧ (fr_M.2.1 77 28 = (0 : Int32)) ∧ (fr_M.2.1 77 29 = (0 : Int32)) ∧ (fr_M.2.1 77 4 = (0 : Int32)) ∧ (fr_M.2.1 77 41 = (0 : Int32)) ∧ (fr_M.2.1 77 42 = (0 : Int32)) ∧ (fr_M.2.1 77 43 = (0 : Int32)) ∧ (fr_M.2.1 77 5 = (-1 : Int32)) ∧ (fr_M.2.1 77 57 = (0 : Int32)) ∧ (fr_M.2.1 77 58 = (0 : Int32)) ∧ ((Nat.blt 2 fr_M.1.1.1 && Nat.ble 100 (fr_M.1.1.2.1 2) && Nat.ble (fr_M.1.1.2.1 2) 104) = true) ∧ (fr_M.1.1.2.2 100 = 6) ∧ (fr_M.1.1.2.2 125 = 1) ∧ (fr_M.1.1.2.2 25 = 6) := by decide +kernel
theorem fI_fr_M_77_13 : fr_M.2.1 77 13 = (0 : Int32) := all_fr_M_28.1
theorem fI_fr_M_77_28 : fr_M.2.1 77 28 = (0 : Int32) := all_fr_M_28.2.1
theorem fI_fr_M_77_29 : fr_M.2.1 77 29 = (0 : Int32) := all_fr_M_28.2.2.1
theorem fI_fr_M_77_4 : fr_M.2.1 77 4 = (0 : Int32) := all_fr_M_28.2.2.2.1
theorem fI_fr_M_77_41 : fr_M.2.1 77 41 = (0 : Int32) := all_fr_M_28.2.2.2.2.1
theorem fI_fr_M_77_42 : fr_M.2.1 77 42 = (0 : Int32) := all_fr_M_28.2.2.2.2.2.1
theorem fI_fr_M_77_43 : fr_M.2.1 77 43 = (0 : Int32) := all_fr_M_28.2.2.2.2.2.2.1
theorem fI_fr_M_77_5 : fr_M.2.1 77 5 = (-1 : Int32) := all_fr_M_28.2.2.2.2.2.2.2.1
theorem fI_fr_M_77_57 : fr_M.2.1 77 57 = (0 : Int32) := all_fr_M_28.2.2.2.2.2.2.2.2.1
theorem fI_fr_M_77_58 : fr_M.2.1 77 58 = (0 : Int32) := all_fr_M_28.2.2.2.2.2.2.2.2.2.1
theorem fK_fr_M_2_0 : (Nat.blt 2 fr_M.1.1.1 && Nat.ble 100 (fr_M.1.1.2.1 2) && Nat.ble (fr_M.1.1.2.1 2) 104) = true := all_fr_M_28.2.2.2.2.2.2.2.2.2.2.1
theorem fN_fr_M_100_0 : fr_M.1.1.2.2 100 = 6 := all_fr_M_28.2.2.2.2.2.2.2.2.2.2.2.1
theorem fN_fr_M_125_0 : fr_M.1.1.2.2 125 = 1 := all_fr_M_28.2.2.2.2.2.2.2.2.2.2.2.2.1
theorem fN_fr_M_25_0 : fr_M.1.1.2.2 25 = 6 := all_fr_M_28.2.2.2.2.2.2.2.2.2.2.2.2.2
theorem all_fr_M_42 : (fr_M.1.1.2.2 2 = 500) ∧ (fr_M.1.1.2.2 78 = 500) ∧ (mm_isObj fr_M 0 10 = true) ∧ (mm_isObj fr_M 100 100 = true) ∧ (mm_isObj fr_M 125 101 = true) ∧ (mm_isObj fr_M 17 4 = true) ∧ (mm_isObj fr_M 1 8 = true) ∧ (mm_isObj fr_M 25 100 = true) ∧ (mm_isObj fr_M 28 9 = true) ∧ (mm_isObj fr_M 2 103 = true) ∧ (mm_isObj fr_M 49 5 = true) ∧ (mm_isObj fr_M 67 6 = true) ∧ (mm_isObj fr_M 6 3 = true) ∧ (mm_isObj fr_M 77 11 = true) := by decide +kernel
theorem fN_fr_M_2_0 : fr_M.1.1.2.2 2 = 500 := all_fr_M_42.1
theorem fN_fr_M_78_0 : fr_M.1.1.2.2 78 = 500 := all_fr_M_42.2.1
theorem fO_fr_M_0_10 : mm_isObj fr_M 0 10 = true := all_fr_M_42.2.2.1
theorem fO_fr_M_100_100 : mm_isObj fr_M 100 100 = true := all_fr_M_42.2.2.2.1
theorem fO_fr_M_125_101 : mm_isObj fr_M 125 101 = true := all_fr_M_42.2.2.2.2.1
theorem fO_fr_M_17_4 : mm_isObj fr_M 17 4 = true := all_fr_M_42.2.2.2.2.2.1
theorem fO_fr_M_1_8 : mm_isObj fr_M 1 8 = true := all_fr_M_42.2.2.2.2.2.2.1
theorem fO_fr_M_25_100 : mm_isObj fr_M 25 100 = true := all_fr_M_42.2.2.2.2.2.2.2.1
theorem fO_fr_M_28_9 : mm_isObj fr_M 28 9 = true := all_fr_M_42.2.2.2.2.2.2.2.2.1
theorem fO_fr_M_2_103 : mm_isObj fr_M 2 103 = true := all_fr_M_42.2.2.2.2.2.2.2.2.2.1
theorem fO_fr_M_49_5 : mm_isObj fr_M 49 5 = true := all_fr_M_42.2.2.2.2.2.2.2.2.2.2.1
theorem fO_fr_M_67_6 : mm_isObj fr_M 67 6 = true := all_fr_M_42.2.2.2.2.2.2.2.2.2.2.2.1
theorem fO_fr_M_6_3 : mm_isObj fr_M 6 3 = true := all_fr_M_42.2.2.2.2.2.2.2.2.2.2.2.2.1
theorem fO_fr_M_77_11 : mm_isObj fr_M 77 11 = true := all_fr_M_42.2.2.2.2.2.2.2.2.2.2.2.2.2
theorem all_fr_M_56 : (mm_isObj fr_M 78 100 = true) ∧ (fr_M.2.2.2 0 0 = some 1) ∧ (fr_M.2.2.2 0 1 = some 6) ∧ (fr_M.2.2.2 0 10 = some 67) ∧ (fr_M.2.2.2 0 3 = some 17) ∧ (fr_M.2.2.2 0 4 = some 28) ∧ (fr_M.2.2.2 0 8 = some 49) ∧ (fr_M.2.2.2 17 1 = some 25) ∧ (fr_M.2.2.2 1 0 = some 2) ∧ (fr_M.2.2.2 49 10 = some 55) ∧ (fr_M.2.2.2 49 5 = some 50) ∧ (fr_M.2.2.2 77 0 = some 78) ∧ (fr_M.2.2.2 77 40 = some 100) ∧ (mm_isObj fr_M 2 102 = false) := by decide +kernel
theorem fO_fr_M_78_100 : mm_isObj fr_M 78 100 = true := all_fr_M_56.1
theorem fR_fr_M_0_0 : fr_M.2.2.2 0 0 = some 1 := all_fr_M_56.2.1
theorem fR_fr_M_0_1 : fr_M.2.2.2 0 1 = some 6 := all_fr_M_56.2.2.1
theorem fR_fr_M_0_10 : fr_M.2.2.2 0 10 = some 67 := all_fr_M_56.2.2.2.1
theorem fR_fr_M_0_3 : fr_M.2.2.2 0 3 = some 17 := all_fr_M_56.2.2.2.2.1
theorem fR_fr_M_0_4 : fr_M.2.2.2 0 4 = some 28 := all_fr_M_56.2.2.2.2.2.1
theorem fR_fr_M_0_8 : fr_M.2.2.2 0 8 = some 49 := all_fr_M_56.2.2.2.2.2.2.1
theorem fR_fr_M_17_1 : fr_M.2.2.2 17 1 = some 25 := all_fr_M_56.2.2.2.2.2.2.2.1
theorem fR_fr_M_1_0 : fr_M.2.2.2 1 0 = some 2 := all_fr_M_56.2.2.2.2.2.2.2.2.1
theorem fR_fr_M_49_10 : fr_M.2.2.2 49 10 = some 55 := all_fr_M_56.2.2.2.2.2.2.2.2.2.1
theorem fR_fr_M_49_5 : fr_M.2.2.2 49 5 = some 50 := all_fr_M_56.2.2.2.2.2.2.2.2.2.2.1
theorem fR_fr_M_77_0 : fr_M.2.2.2 77 0 = some 78 := all_fr_M_56.2.2.2.2.2.2.2.2.2.2.2.1
theorem fR_fr_M_77_40 : fr_M.2.2.2 77 40 = some 100 := all_fr_M_56.2.2.2.2.2.2.2.2.2.2.2.2.1
theorem fX_fr_M_2_102 : mm_isObj fr_M 2 102 = false := all_fr_M_56.2.2.2.2.2.2.2.2.2.2.2.2.2
