/-! what is read of them -/
theorem all_cr_1_0 : (op_b cr_1 = true) ∧ (mm_isObj cr_1 77 11 = true) := by decide +kernel
theorem fC_fr_1 {fr_M fr_1 fr_2 fr_3 fr_4 fr_5 fr_6 fr_7 fr_8 fr_9 fr_10 fr_11 fr_12 : mm_M} (HM : fr_Eq fr_M fr_1 fr_2 fr_3 fr_4 fr_5 fr_6 fr_7 fr_8 fr_9 fr_10 fr_11 fr_12) : op_b fr_1 = true := by
  rw [HM.2.1]
  exact all_cr_1_0.1
theorem fO_fr_1_77_11 {fr_M fr_1 fr_2 fr_3 fr_4 fr_5 fr_6 fr_7 fr_8 fr_9 fr_10 fr_11 fr_12 : mm_M} (HM : fr_Eq fr_M fr_1 fr_2 fr_3 fr_4 fr_5 fr_6 fr_7 fr_8 fr_9 fr_10 fr_11 fr_12) : mm_isObj fr_1 77 11 = true := by
  rw [HM.2.1]
  exact all_cr_1_0.2
theorem all_cr_10_0 : (op_b cr_10 = true) ∧ (cr_10.2.1 100 0 = (0 : Int32)) ∧ (cr_10.2.1 100 1 = (0 : Int32)) ∧ (cr_10.2.1 100 2 = (0 : Int32)) ∧ (cr_10.2.1 100 3 = (0 : Int32)) ∧ (cr_10.2.1 100 4 = (0 : Int32)) ∧ (cr_10.2.1 100 5 = (0 : Int32)) ∧ (cr_10.2.1 25 0 = (0 : Int32)) ∧ (cr_10.2.1 25 1 = (0 : Int32)) ∧ (cr_10.2.1 25 2 = (0 : Int32)) ∧ (cr_10.2.1 25 3 = (0 : Int32)) ∧ (cr_10.2.1 25 4 = (0 : Int32)) ∧ (cr_10.2.1 25 5 = (0 : Int32)) ∧ (cr_10.2.1 49 0 = (10 : Int32)) := by decide +kernel
theorem fC_fr_10 {fr_M fr_1 fr_2 fr_3 fr_4 fr_5 fr_6 fr_7 fr_8 fr_9 fr_10 fr_11 fr_12 : mm_M} (HM : fr_Eq fr_M fr_1 fr_2 fr_3 fr_4 fr_5 fr_6 fr_7 fr_8 fr_9 fr_10 fr_11 fr_12) : op_b fr_10 = true := by
  rw [HM.2.2.2.2.2.2.2.2.2.2.1]
  exact all_cr_10_0.1
theorem fI_fr_10_100_0 {fr_M fr_1 fr_2 fr_3 fr_4 fr_5 fr_6 fr_7 fr_8 fr_9 fr_10 fr_11 fr_12 : mm_M} (HM : fr_Eq fr_M fr_1 fr_2 fr_3 fr_4 fr_5 fr_6 fr_7 fr_8 fr_9 fr_10 fr_11 fr_12) : fr_10.2.1 100 0 = (0 : Int32) := by
  rw [HM.2.2.2.2.2.2.2.2.2.2.1]
  exact all_cr_10_0.2.1
theorem fI_fr_10_100_1 {fr_M fr_1 fr_2 fr_3 fr_4 fr_5 fr_6 fr_7 fr_8 fr_9 fr_10 fr_11 fr_12 : mm_M} (HM : fr_Eq fr_M fr_1 fr_2 fr_3 fr_4 fr_5 fr_6 fr_7 fr_8 fr_9 fr_10 fr_11 fr_12) : fr_10.2.1 100 1 = (0 : Int32) := by
  rw [HM.2.2.2.2.2.2.2.2.2.2.1]
  exact all_cr_10_0.2.2.1
theorem fI_fr_10_100_2 {fr_M fr_1 fr_2 fr_3 fr_4 fr_5 fr_6 fr_7 fr_8 fr_9 fr_10 fr_11 fr_12 : mm_M} (HM : fr_Eq fr_M fr_1 fr_2 fr_3 fr_4 fr_5 fr_6 fr_7 fr_8 fr_9 fr_10 fr_11 fr_12) : fr_10.2.1 100 2 = (0 : Int32) := by
  rw [HM.2.2.2.2.2.2.2.2.2.2.1]
  exact all_cr_10_0.2.2.2.1
theorem fI_fr_10_100_3 {fr_M fr_1 fr_2 fr_3 fr_4 fr_5 fr_6 fr_7 fr_8 fr_9 fr_10 fr_11 fr_12 : mm_M} (HM : fr_Eq fr_M fr_1 fr_2 fr_3 fr_4 fr_5 fr_6 fr_7 fr_8 fr_9 fr_10 fr_11 fr_12) : fr_10.2.1 100 3 = (0 : Int32) := by
  rw [HM.2.2.2.2.2.2.2.2.2.2.1]
  exact all_cr_10_0.2.2.2.2.1
theorem fI_fr_10_100_4 {fr_M fr_1 fr_2 fr_3 fr_4 fr_5 fr_6 fr_7 fr_8 fr_9 fr_10 fr_11 fr_12 : mm_M} (HM : fr_Eq fr_M fr_1 fr_2 fr_3 fr_4 fr_5 fr_6 fr_7 fr_8 fr_9 fr_10 fr_11 fr_12) : fr_10.2.1 100 4 = (0 : Int32) := by
  rw [HM.2.2.2.2.2.2.2.2.2.2.1]
  exact all_cr_10_0.2.2.2.2.2.1
theorem fI_fr_10_100_5 {fr_M fr_1 fr_2 fr_3 fr_4 fr_5 fr_6 fr_7 fr_8 fr_9 fr_10 fr_11 fr_12 : mm_M} (HM : fr_Eq fr_M fr_1 fr_2 fr_3 fr_4 fr_5 fr_6 fr_7 fr_8 fr_9 fr_10 fr_11 fr_12) : fr_10.2.1 100 5 = (0 : Int32) := by
  rw [HM.2.2.2.2.2.2.2.2.2.2.1]
  exact all_cr_10_0.2.2.2.2.2.2.1
theorem fI_fr_10_25_0 {fr_M fr_1 fr_2 fr_3 fr_4 fr_5 fr_6 fr_7 fr_8 fr_9 fr_10 fr_11 fr_12 : mm_M} (HM : fr_Eq fr_M fr_1 fr_2 fr_3 fr_4 fr_5 fr_6 fr_7 fr_8 fr_9 fr_10 fr_11 fr_12) : fr_10.2.1 25 0 = (0 : Int32) := by
  rw [HM.2.2.2.2.2.2.2.2.2.2.1]
  exact all_cr_10_0.2.2.2.2.2.2.2.1
theorem fI_fr_10_25_1 {fr_M fr_1 fr_2 fr_3 fr_4 fr_5 fr_6 fr_7 fr_8 fr_9 fr_10 fr_11 fr_12 : mm_M} (HM : fr_Eq fr_M fr_1 fr_2 fr_3 fr_4 fr_5 fr_6 fr_7 fr_8 fr_9 fr_10 fr_11 fr_12) : fr_10.2.1 25 1 = (0 : Int32) := by
  rw [HM.2.2.2.2.2.2.2.2.2.2.1]
  exact all_cr_10_0.2.2.2.2.2.2.2.2.1
theorem fI_fr_10_25_2 {fr_M fr_1 fr_2 fr_3 fr_4 fr_5 fr_6 fr_7 fr_8 fr_9 fr_10 fr_11 fr_12 : mm_M} (HM : fr_Eq fr_M fr_1 fr_2 fr_3 fr_4 fr_5 fr_6 fr_7 fr_8 fr_9 fr_10 fr_11 fr_12) : fr_10.2.1 25 2 = (0 : Int32) := by
  rw [HM.2.2.2.2.2.2.2.2.2.2.1]
  exact all_cr_10_0.2.2.2.2.2.2.2.2.2.1
theorem fI_fr_10_25_3 {fr_M fr_1 fr_2 fr_3 fr_4 fr_5 fr_6 fr_7 fr_8 fr_9 fr_10 fr_11 fr_12 : mm_M} (HM : fr_Eq fr_M fr_1 fr_2 fr_3 fr_4 fr_5 fr_6 fr_7 fr_8 fr_9 fr_10 fr_11 fr_12) : fr_10.2.1 25 3 = (0 : Int32) := by
  rw [HM.2.2.2.2.2.2.2.2.2.2.1]
  exact all_cr_10_0.2.2.2.2.2.2.2.2.2.2.1
theorem fI_fr_10_25_4 {fr_M fr_1 fr_2 fr_3 fr_4 fr_5 fr_6 fr_7 fr_8 fr_9 fr_10 fr_11 fr_12 : mm_M} (HM : fr_Eq fr_M fr_1 fr_2 fr_3 fr_4 fr_5 fr_6 fr_7 fr_8 fr_9 fr_10 fr_11 fr_12) : fr_10.2.1 25 4 = (0 : Int32) := by
  rw [HM.2.2.2.2.2.2.2.2.2.2.1]
  exact all_cr_10_0.2.2.2.2.2.2.2.2.2.2.2.1
theorem fI_fr_10_25_5 {fr_M fr_1 fr_2 fr_3 fr_4 fr_5 fr_6 fr_7 fr_8 fr_9 fr_10 fr_11 fr_12 : mm_M} (HM : fr_Eq fr_M fr_1 fr_2 fr_3 fr_4 fr_5 fr_6 fr_7 fr_8 fr_9 fr_10 fr_11 fr_12) : fr_10.2.1 25 5 = (0 : Int32) := by
  rw [HM.2.2.2.2.2.2.2.2.2.2.1]
  exact all_cr_10_0.2.2.2.2.2.2.2.2.2.2.2.2.1
theorem fI_fr_10_49_0 {fr_M fr_1 fr_2 fr_3 fr_4 fr_5 fr_6 fr_7 fr_8 fr_9 fr_10 fr_11 fr_12 : mm_M} (HM : fr_Eq fr_M fr_1 fr_2 fr_3 fr_4 fr_5 fr_6 fr_7 fr_8 fr_9 fr_10 fr_11 fr_12) : fr_10.2.1 49 0 = (10 : Int32) := by
  rw [HM.2.2.2.2.2.2.2.2.2.2.1]
  exact all_cr_10_0.2.2.2.2.2.2.2.2.2.2.2.2.2
theorem all_cr_10_14 : (cr_10.2.1 77 13 = (0 : Int32)) ∧ (cr_10.2.1 77 28 = (0 : Int32)) ∧ (cr_10.2.1 77 29 = (0 : Int32)) ∧ (cr_10.1.1.2.2 100 = 6) ∧ (cr_10.1.1.2.2 25 = 6) ∧ (mm_isObj cr_10 0 10 = true) ∧ (mm_isObj cr_10 100 100 = true) ∧ (mm_isObj cr_10 17 4 = true) ∧ (mm_isObj cr_10 25 100 = true) ∧ (mm_isObj cr_10 49 5 = true) ∧ (mm_isObj cr_10 77 11 = true) ∧ (cr_10.2.2.2 0 3 = some 17) ∧ (cr_10.2.2.2 0 8 = some 49) ∧ (cr_10.2.2.2 17 1 = some 25) := by decide +kernel
theorem fI_fr_10_77_13 {fr_M fr_1 fr_2 fr_3 fr_4 fr_5 fr_6 fr_7 fr_8 fr_9 fr_10 fr_11 fr_12 : mm_M} (HM : fr_Eq fr_M fr_1 fr_2 fr_3 fr_4 fr_5 fr_6 fr_7 fr_8 fr_9 fr_10 fr_11 fr_12) : fr_10.2.1 77 13 = (0 : Int32) := by
  rw [HM.2.2.2.2.2.2.2.2.2.2.1]
  exact all_cr_10_14.1
theorem fI_fr_10_77_28 {fr_M fr_1 fr_2 fr_3 fr_4 fr_5 fr_6 fr_7 fr_8 fr_9 fr_10 fr_11 fr_12 : mm_M} (HM : fr_Eq fr_M fr_1 fr_2 fr_3 fr_4 fr_5 fr_6 fr_7 fr_8 fr_9 fr_10 fr_11 fr_12) : fr_10.2.1 77 28 = (0 : Int32) := by
  rw [HM.2.2.2.2.2.2.2.2.2.2.1]
  exact all_cr_10_14.2.1
theorem fI_fr_10_77_29 {fr_M fr_1 fr_2 fr_3 fr_4 fr_5 fr_6 fr_7 fr_8 fr_9 fr_10 fr_11 fr_12 : mm_M} (HM : fr_Eq fr_M fr_1 fr_2 fr_3 fr_4 fr_5 fr_6 fr_7 fr_8 fr_9 fr_10 fr_11 fr_12) : fr_10.2.1 77 29 = (0 : Int32) := by
  rw [HM.2.2.2.2.2.2.2.2.2.2.1]
  exact all_cr_10_14.2.2.1
theorem fN_fr_10_100_0 {fr_M fr_1 fr_2 fr_3 fr_4 fr_5 fr_6 fr_7 fr_8 fr_9 fr_10 fr_11 fr_12 : mm_M} (HM : fr_Eq fr_M fr_1 fr_2 fr_3 fr_4 fr_5 fr_6 fr_7 fr_8 fr_9 fr_10 fr_11 fr_12) : fr_10.1.1.2.2 100 = 6 := by
  rw [HM.2.2.2.2.2.2.2.2.2.2.1]
  exact all_cr_10_14.2.2.2.1
theorem fN_fr_10_25_0 {fr_M fr_1 fr_2 fr_3 fr_4 fr_5 fr_6 fr_7 fr_8 fr_9 fr_10 fr_11 fr_12 : mm_M} (HM : fr_Eq fr_M fr_1 fr_2 fr_3 fr_4 fr_5 fr_6 fr_7 fr_8 fr_9 fr_10 fr_11 fr_12) : fr_10.1.1.2.2 25 = 6 := by
  rw [HM.2.2.2.2.2.2.2.2.2.2.1]
  exact all_cr_10_14.2.2.2.2.1
theorem fO_fr_10_0_10 {fr_M fr_1 fr_2 fr_3 fr_4 fr_5 fr_6 fr_7 fr_8 fr_9 fr_10 fr_11 fr_12 : mm_M} (HM : fr_Eq fr_M fr_1 fr_2 fr_3 fr_4 fr_5 fr_6 fr_7 fr_8 fr_9 fr_10 fr_11 fr_12) : mm_isObj fr_10 0 10 = true := by
  rw [HM.2.2.2.2.2.2.2.2.2.2.1]
  exact all_cr_10_14.2.2.2.2.2.1
theorem fO_fr_10_100_100 {fr_M fr_1 fr_2 fr_3 fr_4 fr_5 fr_6 fr_7 fr_8 fr_9 fr_10 fr_11 fr_12 : mm_M} (HM : fr_Eq fr_M fr_1 fr_2 fr_3 fr_4 fr_5 fr_6 fr_7 fr_8 fr_9 fr_10 fr_11 fr_12) : mm_isObj fr_10 100 100 = true := by
  rw [HM.2.2.2.2.2.2.2.2.2.2.1]
  exact all_cr_10_14.2.2.2.2.2.2.1
theorem fO_fr_10_17_4 {fr_M fr_1 fr_2 fr_3 fr_4 fr_5 fr_6 fr_7 fr_8 fr_9 fr_10 fr_11 fr_12 : mm_M} (HM : fr_Eq fr_M fr_1 fr_2 fr_3 fr_4 fr_5 fr_6 fr_7 fr_8 fr_9 fr_10 fr_11 fr_12) : mm_isObj fr_10 17 4 = true := by
  rw [HM.2.2.2.2.2.2.2.2.2.2.1]
  exact all_cr_10_14.2.2.2.2.2.2.2.1
theorem fO_fr_10_25_100 {fr_M fr_1 fr_2 fr_3 fr_4 fr_5 fr_6 fr_7 fr_8 fr_9 fr_10 fr_11 fr_12 : mm_M} (HM : fr_Eq fr_M fr_1 fr_2 fr_3 fr_4 fr_5 fr_6 fr_7 fr_8 fr_9 fr_10 fr_11 fr_12) : mm_isObj fr_10 25 100 = true := by
  rw [HM.2.2.2.2.2.2.2.2.2.2.1]
  exact all_cr_10_14.2.2.2.2.2.2.2.2.1
theorem fO_fr_10_49_5 {fr_M fr_1 fr_2 fr_3 fr_4 fr_5 fr_6 fr_7 fr_8 fr_9 fr_10 fr_11 fr_12 : mm_M} (HM : fr_Eq fr_M fr_1 fr_2 fr_3 fr_4 fr_5 fr_6 fr_7 fr_8 fr_9 fr_10 fr_11 fr_12) : mm_isObj fr_10 49 5 = true := by
  rw [HM.2.2.2.2.2.2.2.2.2.2.1]
  exact all_cr_10_14.2.2.2.2.2.2.2.2.2.1
theorem fO_fr_10_77_11 {fr_M fr_1 fr_2 fr_3 fr_4 fr_5 fr_6 fr_7 fr_8 fr_9 fr_10 fr_11 fr_12 : mm_M} (HM : fr_Eq fr_M fr_1 fr_2 fr_3 fr_4 fr_5 fr_6 fr_7 fr_8 fr_9 fr_10 fr_11 fr_12) : mm_isObj fr_10 77 11 = true := by
  rw [HM.2.2.2.2.2.2.2.2.2.2.1]
  exact all_cr_10_14.2.2.2.2.2.2.2.2.2.2.1
theorem fR_fr_10_0_3 {fr_M fr_1 fr_2 fr_3 fr_4 fr_5 fr_6 fr_7 fr_8 fr_9 fr_10 fr_11 fr_12 : mm_M} (HM : fr_Eq fr_M fr_1 fr_2 fr_3 fr_4 fr_5 fr_6 fr_7 fr_8 fr_9 fr_10 fr_11 fr_12) : fr_10.2.2.2 0 3 = some 17 := by
  rw [HM.2.2.2.2.2.2.2.2.2.2.1]
  exact all_cr_10_14.2.2.2.2.2.2.2.2.2.2.2.1
theorem fR_fr_10_0_8 {fr_M fr_1 fr_2 fr_3 fr_4 fr_5 fr_6 fr_7 fr_8 fr_9 fr_10 fr_11 fr_12 : mm_M} (HM : fr_Eq fr_M fr_1 fr_2 fr_3 fr_4 fr_5 fr_6 fr_7 fr_8 fr_9 fr_10 fr_11 fr_12) : fr_10.2.2.2 0 8 = some 49 := by
  rw [HM.2.2.2.2.2.2.2.2.2.2.1]
  exact all_cr_10_14.2.2.2.2.2.2.2.2.2.2.2.2.1
theorem fR_fr_10_17_1 {fr_M fr_1 fr_2 fr_3 fr_4 fr_5 fr_6 fr_7 fr_8 fr_9 fr_10 fr_11 fr_12 : mm_M} (HM : fr_Eq fr_M fr_1 fr_2 fr_3 fr_4 fr_5 fr_6 fr_7 fr_8 fr_9 fr_10 fr_11 fr_12) : fr_10.2.2.2 17 1 = some 25 := by
  rw [HM.2.2.2.2.2.2.2.2.2.2.1]
  exact all_cr_10_14.2.2.2.2.2.2.2.2.2.2.2.2.2
theorem all_cr_10_28 : (cr_10.2.2.2 77 40 = some 100) := by decide +kernel
theorem fR_fr_10_77_40 {fr_M fr_1 fr_2 fr_3 fr_4 fr_5 fr_6 fr_7 fr_8 fr_9 fr_10 fr_11 fr_12 : mm_M} (HM : fr_Eq fr_M fr_1 fr_2 fr_3 fr_4 fr_5 fr_6 fr_7 fr_8 fr_9 fr_10 fr_11 fr_12) : fr_10.2.2.2 77 40 = some 100 := by
  rw [HM.2.2.2.2.2.2.2.2.2.2.1]
  exact all_cr_10_28
theorem all_cr_11_0 : (op_b cr_11 = true) ∧ (mm_isObj cr_11 77 11 = true) := by decide +kernel
theorem fC_fr_11 {fr_M fr_1 fr_2 fr_3 fr_4 fr_5 fr_6 fr_7 fr_8 fr_9 fr_10 fr_11 fr_12 : mm_M} (HM : fr_Eq fr_M fr_1 fr_2 fr_3 fr_4 fr_5 fr_6 fr_7 fr_8 fr_9 fr_10 fr_11 fr_12) : op_b fr_11 = true := by
  rw [HM.2.2.2.2.2.2.2.2.2.2.2.1]
  exact all_cr_11_0.1
theorem fO_fr_11_77_11 {fr_M fr_1 fr_2 fr_3 fr_4 fr_5 fr_6 fr_7 fr_8 fr_9 fr_10 fr_11 fr_12 : mm_M} (HM : fr_Eq fr_M fr_1 fr_2 fr_3 fr_4 fr_5 fr_6 fr_7 fr_8 fr_9 fr_10 fr_11 fr_12) : mm_isObj fr_11 77 11 = true := by
  rw [HM.2.2.2.2.2.2.2.2.2.2.2.1]
  exact all_cr_11_0.2
theorem all_cr_12_0 : (op_b cr_12 = true) := by decide +kernel
theorem fC_fr_12 {fr_M fr_1 fr_2 fr_3 fr_4 fr_5 fr_6 fr_7 fr_8 fr_9 fr_10 fr_11 fr_12 : mm_M} (HM : fr_Eq fr_M fr_1 fr_2 fr_3 fr_4 fr_5 fr_6 fr_7 fr_8 fr_9 fr_10 fr_11 fr_12) : op_b fr_12 = true := by
  rw [HM.2.2.2.2.2.2.2.2.2.2.2.2]
  exact all_cr_12_0
theorem all_cr_2_0 : (op_b cr_2 = true) := by decide +kernel
theorem fC_fr_2 {fr_M fr_1 fr_2 fr_3 fr_4 fr_5 fr_6 fr_7 fr_8 fr_9 fr_10 fr_11 fr_12 : mm_M} (HM : fr_Eq fr_M fr_1 fr_2 fr_3 fr_4 fr_5 fr_6 fr_7 fr_8 fr_9 fr_10 fr_11 fr_12) : op_b fr_2 = true := by
  rw [HM.2.2.1]
  exact all_cr_2_0
theorem all_cr_3_0 : (op_b cr_3 = true) ∧ (mm_isObj cr_3 77 11 = true) := by decide +kernel
theorem fC_fr_3 {fr_M fr_1 fr_2 fr_3 fr_4 fr_5 fr_6 fr_7 fr_8 fr_9 fr_10 fr_11 fr_12 : mm_M} (HM : fr_Eq fr_M fr_1 fr_2 fr_3 fr_4 fr_5 fr_6 fr_7 fr_8 fr_9 fr_10 fr_11 fr_12) : op_b fr_3 = true := by
  rw [HM.2.2.2.1]
  exact all_cr_3_0.1
theorem fO_fr_3_77_11 {fr_M fr_1 fr_2 fr_3 fr_4 fr_5 fr_6 fr_7 fr_8 fr_9 fr_10 fr_11 fr_12 : mm_M} (HM : fr_Eq fr_M fr_1 fr_2 fr_3 fr_4 fr_5 fr_6 fr_7 fr_8 fr_9 fr_10 fr_11 fr_12) : mm_isObj fr_3 77 11 = true := by
  rw [HM.2.2.2.1]
  exact all_cr_3_0.2
theorem all_cr_4_0 : (op_b cr_4 = true) := by decide +kernel
theorem fC_fr_4 {fr_M fr_1 fr_2 fr_3 fr_4 fr_5 fr_6 fr_7 fr_8 fr_9 fr_10 fr_11 fr_12 : mm_M} (HM : fr_Eq fr_M fr_1 fr_2 fr_3 fr_4 fr_5 fr_6 fr_7 fr_8 fr_9 fr_10 fr_11 fr_12) : op_b fr_4 = true := by
  rw [HM.2.2.2.2.1]
  exact all_cr_4_0
theorem all_cr_5_0 : (op_b cr_5 = true) ∧ (mm_isObj cr_5 77 11 = true) := by decide +kernel
theorem fC_fr_5 {fr_M fr_1 fr_2 fr_3 fr_4 fr_5 fr_6 fr_7 fr_8 fr_9 fr_10 fr_11 fr_12 : mm_M} (HM : fr_Eq fr_M fr_1 fr_2 fr_3 fr_4 fr_5 fr_6 fr_7 fr_8 fr_9 fr_10 fr_11 fr_12) : op_b fr_5 = true := by
  rw [HM.2.2.2.2.2.1]
  exact all_cr_5_0.1
theorem fO_fr_5_77_11 {fr_M fr_1 fr_2 fr_3 fr_4 fr_5 fr_6 fr_7 fr_8 fr_9 fr_10 fr_11 fr_12 : mm_M} (HM : fr_Eq fr_M fr_1 fr_2 fr_3 fr_4 fr_5 fr_6 fr_7 fr_8 fr_9 fr_10 fr_11 fr_12) : mm_isObj fr_5 77 11 = true := by
  rw [HM.2.2.2.2.2.1]
  exact all_cr_5_0.2
theorem all_cr_6_0 : (op_b cr_6 = true) := by decide +kernel
theorem fC_fr_6 {fr_M fr_1 fr_2 fr_3 fr_4 fr_5 fr_6 fr_7 fr_8 fr_9 fr_10 fr_11 fr_12 : mm_M} (HM : fr_Eq fr_M fr_1 fr_2 fr_3 fr_4 fr_5 fr_6 fr_7 fr_8 fr_9 fr_10 fr_11 fr_12) : op_b fr_6 = true := by
  rw [HM.2.2.2.2.2.2.1]
  exact all_cr_6_0
theorem all_cr_7_0 : (op_b cr_7 = true) ∧ (mm_isObj cr_7 77 11 = true) := by decide +kernel
theorem fC_fr_7 {fr_M fr_1 fr_2 fr_3 fr_4 fr_5 fr_6 fr_7 fr_8 fr_9 fr_10 fr_11 fr_12 : mm_M} (HM : fr_Eq fr_M fr_1 fr_2 fr_3 fr_4 fr_5 fr_6 fr_7 fr_8 fr_9 fr_10 fr_11 fr_12) : op_b fr_7 = true := by
  rw [HM.2.2.2.2.2.2.2.1]
  exact all_cr_7_0.1
theorem fO_fr_7_77_11 {fr_M fr_1 fr_2 fr_3 fr_4 fr_5 fr_6 fr_7 fr_8 fr_9 fr_10 fr_11 fr_12 : mm_M} (HM : fr_Eq fr_M fr_1 fr_2 fr_3 fr_4 fr_5 fr_6 fr_7 fr_8 fr_9 fr_10 fr_11 fr_12) : mm_isObj fr_7 77 11 = true := by
  rw [HM.2.2.2.2.2.2.2.1]
  exact all_cr_7_0.2
theorem all_cr_8_0 : (op_b cr_8 = true) := by decide +kernel
theorem fC_fr_8 {fr_M fr_1 fr_2 fr_3 fr_4 fr_5 fr_6 fr_7 fr_8 fr_9 fr_10 fr_11 fr_12 : mm_M} (HM : fr_Eq fr_M fr_1 fr_2 fr_3 fr_4 fr_5 fr_6 fr_7 fr_8 fr_9 fr_10 fr_11 fr_12) : op_b fr_8 = true := by
  rw [HM.2.2.2.2.2.2.2.2.1]
  exact all_cr_8_0
theorem all_cr_9_0 : (op_b cr_9 = true) ∧ (cr_9.2.1 49 0 = (10 : Int32)) ∧ (mm_isObj cr_9 0 10 = true) ∧ (mm_isObj cr_9 17 4 = true) ∧ (mm_isObj cr_9 49 5 = true) ∧ (cr_9.2.2.2 0 2 = some 11) ∧ (cr_9.2.2.2 0 3 = some 17) ∧ (cr_9.2.2.2 0 8 = some 49) := by decide +kernel
theorem fC_fr_9 {fr_M fr_1 fr_2 fr_3 fr_4 fr_5 fr_6 fr_7 fr_8 fr_9 fr_10 fr_11 fr_12 : mm_M} (HM : fr_Eq fr_M fr_1 fr_2 fr_3 fr_4 fr_5 fr_6 fr_7 fr_8 fr_9 fr_10 fr_11 fr_12) : op_b fr_9 = true := by
  rw [HM.2.2.2.2.2.2.2.2.2.1]
  exact all_cr_9_0.1
theorem fI_fr_9_49_0 {fr_M fr_1 fr_2 fr_3 fr_4 fr_5 fr_6 fr_7 fr_8 fr_9 fr_10 fr_11 fr_12 : mm_M} (HM : fr_Eq fr_M fr_1 fr_2 fr_3 fr_4 fr_5 fr_6 fr_7 fr_8 fr_9 fr_10 fr_11 fr_12) : fr_9.2.1 49 0 = (10 : Int32) := by
  rw [HM.2.2.2.2.2.2.2.2.2.1]
  exact all_cr_9_0.2.1
theorem fO_fr_9_0_10 {fr_M fr_1 fr_2 fr_3 fr_4 fr_5 fr_6 fr_7 fr_8 fr_9 fr_10 fr_11 fr_12 : mm_M} (HM : fr_Eq fr_M fr_1 fr_2 fr_3 fr_4 fr_5 fr_6 fr_7 fr_8 fr_9 fr_10 fr_11 fr_12) : mm_isObj fr_9 0 10 = true := by
  rw [HM.2.2.2.2.2.2.2.2.2.1]
  exact all_cr_9_0.2.2.1
theorem fO_fr_9_17_4 {fr_M fr_1 fr_2 fr_3 fr_4 fr_5 fr_6 fr_7 fr_8 fr_9 fr_10 fr_11 fr_12 : mm_M} (HM : fr_Eq fr_M fr_1 fr_2 fr_3 fr_4 fr_5 fr_6 fr_7 fr_8 fr_9 fr_10 fr_11 fr_12) : mm_isObj fr_9 17 4 = true := by
  rw [HM.2.2.2.2.2.2.2.2.2.1]
  exact all_cr_9_0.2.2.2.1
theorem fO_fr_9_49_5 {fr_M fr_1 fr_2 fr_3 fr_4 fr_5 fr_6 fr_7 fr_8 fr_9 fr_10 fr_11 fr_12 : mm_M} (HM : fr_Eq fr_M fr_1 fr_2 fr_3 fr_4 fr_5 fr_6 fr_7 fr_8 fr_9 fr_10 fr_11 fr_12) : mm_isObj fr_9 49 5 = true := by
  rw [HM.2.2.2.2.2.2.2.2.2.1]
  exact all_cr_9_0.2.2.2.2.1
theorem fR_fr_9_0_2 {fr_M fr_1 fr_2 fr_3 fr_4 fr_5 fr_6 fr_7 fr_8 fr_9 fr_10 fr_11 fr_12 : mm_M} (HM : fr_Eq fr_M fr_1 fr_2 fr_3 fr_4 fr_5 fr_6 fr_7 fr_8 fr_9 fr_10 fr_11 fr_12) : fr_9.2.2.2 0 2 = some 11 := by
  rw [HM.2.2.2.2.2.2.2.2.2.1]
  exact all_cr_9_0.2.2.2.2.2.1
theorem fR_fr_9_0_3 {fr_M fr_1 fr_2 fr_3 fr_4 fr_5 fr_6 fr_7 fr_8 fr_9 fr_10 fr_11 fr_12 : mm_M} (HM : fr_Eq fr_M fr_1 fr_2 fr_3 fr_4 fr_5 fr_6 fr_7 fr_8 fr_9 fr_10 fr_11 fr_12) : fr_9.2.2.2 0 3 = some 17 := by
  rw [HM.2.2.2.2.2.2.2.2.2.1]
  exact all_cr_9_0.2.2.2.2.2.2.1
theorem fR_fr_9_0_8 {fr_M fr_1 fr_2 fr_3 fr_4 fr_5 fr_6 fr_7 fr_8 fr_9 fr_10 fr_11 fr_12 : mm_M} (HM : fr_Eq fr_M fr_1 fr_2 fr_3 fr_4 fr_5 fr_6 fr_7 fr_8 fr_9 fr_10 fr_11 fr_12) : fr_9.2.2.2 0 8 = some 49 := by
  rw [HM.2.2.2.2.2.2.2.2.2.1]
  exact all_cr_9_0.2.2.2.2.2.2.2
theorem all_fr_A_0 : ((Nat.beq fr_A.1.2.2.2 0 && Nat.blt fr_A.1.1.1 900000) = true ∧ fr_A.1.1.1 = 77) := by decide +kernel
theorem fr_A1 : (Nat.beq fr_A.1.2.2.2 0 && Nat.blt fr_A.1.1.1 900000) = true ∧ fr_A.1.1.1 = 77 := all_fr_A_0
theorem all_fr_B_0 : ((Nat.beq fr_B.1.2.2.2 0 && Nat.blt fr_B.1.1.1 900000) = true ∧ fr_B.1.1.1 = 125) := by decide +kernel
theorem fr_B1 : (Nat.beq fr_B.1.2.2.2 0 && Nat.blt fr_B.1.1.1 900000) = true ∧ fr_B.1.1.1 = 125 := all_fr_B_0
theorem all_cr_M_0 : (op_b cr_M = true) ∧ (cr_M.2.1 0 12 = (0 : Int32)) ∧ (cr_M.2.1 100 0 = (0 : Int32)) ∧ (cr_M.2.1 100 1 = (0 : Int32)) ∧ (cr_M.2.1 100 2 = (0 : Int32)) ∧ (cr_M.2.1 100 3 = (0 : Int32)) ∧ (cr_M.2.1 100 4 = (0 : Int32)) ∧ (cr_M.2.1 100 5 = (0 : Int32)) ∧ (cr_M.2.1 17 4 = (0 : Int32)) ∧ (cr_M.2.1 1 1 = (0 : Int32)) ∧ (cr_M.2.1 1 10 = (0 : Int32)) ∧ (cr_M.2.1 1 11 = (-1 : Int32)) ∧ (cr_M.2.1 25 0 = (0 : Int32)) ∧ (cr_M.2.1 25 1 = (0 : Int32)) := by decide +kernel
theorem fC_fr_M {fr_M fr_1 fr_2 fr_3 fr_4 fr_5 fr_6 fr_7 fr_8 fr_9 fr_10 fr_11 fr_12 : mm_M} (HM : fr_Eq fr_M fr_1 fr_2 fr_3 fr_4 fr_5 fr_6 fr_7 fr_8 fr_9 fr_10 fr_11 fr_12) : op_b fr_M = true := by
  rw [HM.1]
  exact all_cr_M_0.1
theorem fI_fr_M_0_12 {fr_M fr_1 fr_2 fr_3 fr_4 fr_5 fr_6 fr_7 fr_8 fr_9 fr_10 fr_11 fr_12 : mm_M} (HM : fr_Eq fr_M fr_1 fr_2 fr_3 fr_4 fr_5 fr_6 fr_7 fr_8 fr_9 fr_10 fr_11 fr_12) : fr_M.2.1 0 12 = (0 : Int32) := by
  rw [HM.1]
  exact all_cr_M_0.2.1
theorem fI_fr_M_100_0 {fr_M fr_1 fr_2 fr_3 fr_4 fr_5 fr_6 fr_7 fr_8 fr_9 fr_10 fr_11 fr_12 : mm_M} (HM : fr_Eq fr_M fr_1 fr_2 fr_3 fr_4 fr_5 fr_6 fr_7 fr_8 fr_9 fr_10 fr_11 fr_12) : fr_M.2.1 100 0 = (0 : Int32) := by
  rw [HM.1]
  exact all_cr_M_0.2.2.1
theorem fI_fr_M_100_1 {fr_M fr_1 fr_2 fr_3 fr_4 fr_5 fr_6 fr_7 fr_8 fr_9 fr_10 fr_11 fr_12 : mm_M} (HM : fr_Eq fr_M fr_1 fr_2 fr_3 fr_4 fr_5 fr_6 fr_7 fr_8 fr_9 fr_10 fr_11 fr_12) : fr_M.2.1 100 1 = (0 : Int32) := by
  rw [HM.1]
  exact all_cr_M_0.2.2.2.1
theorem fI_fr_M_100_2 {fr_M fr_1 fr_2 fr_3 fr_4 fr_5 fr_6 fr_7 fr_8 fr_9 fr_10 fr_11 fr_12 : mm_M} (HM : fr_Eq fr_M fr_1 fr_2 fr_3 fr_4 fr_5 fr_6 fr_7 fr_8 fr_9 fr_10 fr_11 fr_12) : fr_M.2.1 100 2 = (0 : Int32) := by
  rw [HM.1]
  exact all_cr_M_0.2.2.2.2.1
theorem fI_fr_M_100_3 {fr_M fr_1 fr_2 fr_3 fr_4 fr_5 fr_6 fr_7 fr_8 fr_9 fr_10 fr_11 fr_12 : mm_M} (HM : fr_Eq fr_M fr_1 fr_2 fr_3 fr_4 fr_5 fr_6 fr_7 fr_8 fr_9 fr_10 fr_11 fr_12) : fr_M.2.1 100 3 = (0 : Int32) := by
  rw [HM.1]
  exact all_cr_M_0.2.2.2.2.2.1
theorem fI_fr_M_100_4 {fr_M fr_1 fr_2 fr_3 fr_4 fr_5 fr_6 fr_7 fr_8 fr_9 fr_10 fr_11 fr_12 : mm_M} (HM : fr_Eq fr_M fr_1 fr_2 fr_3 fr_4 fr_5 fr_6 fr_7 fr_8 fr_9 fr_10 fr_11 fr_12) : fr_M.2.1 100 4 = (0 : Int32) := by
  rw [HM.1]
  exact all_cr_M_0.2.2.2.2.2.2.1
theorem fI_fr_M_100_5 {fr_M fr_1 fr_2 fr_3 fr_4 fr_5 fr_6 fr_7 fr_8 fr_9 fr_10 fr_11 fr_12 : mm_M} (HM : fr_Eq fr_M fr_1 fr_2 fr_3 fr_4 fr_5 fr_6 fr_7 fr_8 fr_9 fr_10 fr_11 fr_12) : fr_M.2.1 100 5 = (0 : Int32) := by
  rw [HM.1]
  exact all_cr_M_0.2.2.2.2.2.2.2.1
theorem fI_fr_M_17_4 {fr_M fr_1 fr_2 fr_3 fr_4 fr_5 fr_6 fr_7 fr_8 fr_9 fr_10 fr_11 fr_12 : mm_M} (HM : fr_Eq fr_M fr_1 fr_2 fr_3 fr_4 fr_5 fr_6 fr_7 fr_8 fr_9 fr_10 fr_11 fr_12) : fr_M.2.1 17 4 = (0 : Int32) := by
  rw [HM.1]
  exact all_cr_M_0.2.2.2.2.2.2.2.2.1
theorem fI_fr_M_1_1 {fr_M fr_1 fr_2 fr_3 fr_4 fr_5 fr_6 fr_7 fr_8 fr_9 fr_10 fr_11 fr_12 : mm_M} (HM : fr_Eq fr_M fr_1 fr_2 fr_3 fr_4 fr_5 fr_6 fr_7 fr_8 fr_9 fr_10 fr_11 fr_12) : fr_M.2.1 1 1 = (0 : Int32) := by
  rw [HM.1]
  exact all_cr_M_0.2.2.2.2.2.2.2.2.2.1
theorem fI_fr_M_1_10 {fr_M fr_1 fr_2 fr_3 fr_4 fr_5 fr_6 fr_7 fr_8 fr_9 fr_10 fr_11 fr_12 : mm_M} (HM : fr_Eq fr_M fr_1 fr_2 fr_3 fr_4 fr_5 fr_6 fr_7 fr_8 fr_9 fr_10 fr_11 fr_12) : fr_M.2.1 1 10 = (0 : Int32) := by
  rw [HM.1]
  exact all_cr_M_0.2.2.2.2.2.2.2.2.2.2.1
theorem fI_fr_M_1_11 {fr_M fr_1 fr_2 fr_3 fr_4 fr_5 fr_6 fr_7 fr_8 fr_9 fr_10 fr_11 fr_12 : mm_M} (HM : fr_Eq fr_M fr_1 fr_2 fr_3 fr_4 fr_5 fr_6 fr_7 fr_8 fr_9 fr_10 fr_11 fr_12) : fr_M.2.1 1 11 = (-1 : Int32) := by
  rw [HM.1]
  exact all_cr_M_0.2.2.2.2.2.2.2.2.2.2.2.1
theorem fI_fr_M_25_0 {fr_M fr_1 fr_2 fr_3 fr_4 fr_5 fr_6 fr_7 fr_8 fr_9 fr_10 fr_11 fr_12 : mm_M} (HM : fr_Eq fr_M fr_1 fr_2 fr_3 fr_4 fr_5 fr_6 fr_7 fr_8 fr_9 fr_10 fr_11 fr_12) : fr_M.2.1 25 0 = (0 : Int32) := by
  rw [HM.1]
  exact all_cr_M_0.2.2.2.2.2.2.2.2.2.2.2.2.1
theorem fI_fr_M_25_1 {fr_M fr_1 fr_2 fr_3 fr_4 fr_5 fr_6 fr_7 fr_8 fr_9 fr_10 fr_11 fr_12 : mm_M} (HM : fr_Eq fr_M fr_1 fr_2 fr_3 fr_4 fr_5 fr_6 fr_7 fr_8 fr_9 fr_10 fr_11 fr_12) : fr_M.2.1 25 1 = (0 : Int32) := by
  rw [HM.1]
  exact all_cr_M_0.2.2.2.2.2.2.2.2.2.2.2.2.2
theorem all_cr_M_14 : (cr_M.2.1 25 2 = (0 : Int32)) ∧ (cr_M.2.1 25 3 = (0 : Int32)) ∧ (cr_M.2.1 25 4 = (0 : Int32)) ∧ (cr_M.2.1 25 5 = (0 : Int32)) ∧ (cr_M.2.1 28 8 = (0 : Int32)) ∧ (cr_M.2.1 28 9 = (0 : Int32)) ∧ (cr_M.2.1 49 0 = (10 : Int32)) ∧ (cr_M.2.1 49 2 = (0 : Int32)) ∧ (cr_M.2.1 49 3 = (0 : Int32)) ∧ (cr_M.2.1 67 4 = (0 : Int32)) ∧ (cr_M.2.1 6 0 = (0 : Int32)) ∧ (cr_M.2.1 77 1 = (0 : Int32)) ∧ (cr_M.2.1 77 11 = (10 : Int32)) ∧ (cr_M.2.1 77 12 = (0 : Int32)) := by decide +kernel
theorem fI_fr_M_25_2 {fr_M fr_1 fr_2 fr_3 fr_4 fr_5 fr_6 fr_7 fr_8 fr_9 fr_10 fr_11 fr_12 : mm_M} (HM : fr_Eq fr_M fr_1 fr_2 fr_3 fr_4 fr_5 fr_6 fr_7 fr_8 fr_9 fr_10 fr_11 fr_12) : fr_M.2.1 25 2 = (0 : Int32) := by
  rw [HM.1]
  exact all_cr_M_14.1
theorem fI_fr_M_25_3 {fr_M fr_1 fr_2 fr_3 fr_4 fr_5 fr_6 fr_7 fr_8 fr_9 fr_10 fr_11 fr_12 : mm_M} (HM : fr_Eq fr_M fr_1 fr_2 fr_3 fr_4 fr_5 fr_6 fr_7 fr_8 fr_9 fr_10 fr_11 fr_12) : fr_M.2.1 25 3 = (0 : Int32) := by
  rw [HM.1]
  exact all_cr_M_14.2.1
theorem fI_fr_M_25_4 {fr_M fr_1 fr_2 fr_3 fr_4 fr_5 fr_6 fr_7 fr_8 fr_9 fr_10 fr_11 fr_12 : mm_M} (HM : fr_Eq fr_M fr_1 fr_2 fr_3 fr_4 fr_5 fr_6 fr_7 fr_8 fr_9 fr_10 fr_11 fr_12) : fr_M.2.1 25 4 = (0 : Int32) := by
  rw [HM.1]
  exact all_cr_M_14.2.2.1
theorem fI_fr_M_25_5 {fr_M fr_1 fr_2 fr_3 fr_4 fr_5 fr_6 fr_7 fr_8 fr_9 fr_10 fr_11 fr_12 : mm_M} (HM : fr_Eq fr_M fr_1 fr_2 fr_3 fr_4 fr_5 fr_6 fr_7 fr_8 fr_9 fr_10 fr_11 fr_12) : fr_M.2.1 25 5 = (0 : Int32) := by
  rw [HM.1]
  exact all_cr_M_14.2.2.2.1
theorem fI_fr_M_28_8 {fr_M fr_1 fr_2 fr_3 fr_4 fr_5 fr_6 fr_7 fr_8 fr_9 fr_10 fr_11 fr_12 : mm_M} (HM : fr_Eq fr_M fr_1 fr_2 fr_3 fr_4 fr_5 fr_6 fr_7 fr_8 fr_9 fr_10 fr_11 fr_12) : fr_M.2.1 28 8 = (0 : Int32) := by
  rw [HM.1]
  exact all_cr_M_14.2.2.2.2.1
theorem fI_fr_M_28_9 {fr_M fr_1 fr_2 fr_3 fr_4 fr_5 fr_6 fr_7 fr_8 fr_9 fr_10 fr_11 fr_12 : mm_M} (HM : fr_Eq fr_M fr_1 fr_2 fr_3 fr_4 fr_5 fr_6 fr_7 fr_8 fr_9 fr_10 fr_11 fr_12) : fr_M.2.1 28 9 = (0 : Int32) := by
  rw [HM.1]
  exact all_cr_M_14.2.2.2.2.2.1
theorem fI_fr_M_49_0 {fr_M fr_1 fr_2 fr_3 fr_4 fr_5 fr_6 fr_7 fr_8 fr_9 fr_10 fr_11 fr_12 : mm_M} (HM : fr_Eq fr_M fr_1 fr_2 fr_3 fr_4 fr_5 fr_6 fr_7 fr_8 fr_9 fr_10 fr_11 fr_12) : fr_M.2.1 49 0 = (10 : Int32) := by
  rw [HM.1]
  exact all_cr_M_14.2.2.2.2.2.2.1
theorem fI_fr_M_49_2 {fr_M fr_1 fr_2 fr_3 fr_4 fr_5 fr_6 fr_7 fr_8 fr_9 fr_10 fr_11 fr_12 : mm_M} (HM : fr_Eq fr_M fr_1 fr_2 fr_3 fr_4 fr_5 fr_6 fr_7 fr_8 fr_9 fr_10 fr_11 fr_12) : fr_M.2.1 49 2 = (0 : Int32) := by
  rw [HM.1]
  exact all_cr_M_14.2.2.2.2.2.2.2.1
theorem fI_fr_M_49_3 {fr_M fr_1 fr_2 fr_3 fr_4 fr_5 fr_6 fr_7 fr_8 fr_9 fr_10 fr_11 fr_12 : mm_M} (HM : fr_Eq fr_M fr_1 fr_2 fr_3 fr_4 fr_5 fr_6 fr_7 fr_8 fr_9 fr_10 fr_11 fr_12) : fr_M.2.1 49 3 = (0 : Int32) := by
  rw [HM.1]
  exact all_cr_M_14.2.2.2.2.2.2.2.2.1
theorem fI_fr_M_67_4 {fr_M fr_1 fr_2 fr_3 fr_4 fr_5 fr_6 fr_7 fr_8 fr_9 fr_10 fr_11 fr_12 : mm_M} (HM : fr_Eq fr_M fr_1 fr_2 fr_3 fr_4 fr_5 fr_6 fr_7 fr_8 fr_9 fr_10 fr_11 fr_12) : fr_M.2.1 67 4 = (0 : Int32) := by
  rw [HM.1]
  exact all_cr_M_14.2.2.2.2.2.2.2.2.2.1
theorem fI_fr_M_6_0 {fr_M fr_1 fr_2 fr_3 fr_4 fr_5 fr_6 fr_7 fr_8 fr_9 fr_10 fr_11 fr_12 : mm_M} (HM : fr_Eq fr_M fr_1 fr_2 fr_3 fr_4 fr_5 fr_6 fr_7 fr_8 fr_9 fr_10 fr_11 fr_12) : fr_M.2.1 6 0 = (0 : Int32) := by
  rw [HM.1]
  exact all_cr_M_14.2.2.2.2.2.2.2.2.2.2.1
theorem fI_fr_M_77_1 {fr_M fr_1 fr_2 fr_3 fr_4 fr_5 fr_6 fr_7 fr_8 fr_9 fr_10 fr_11 fr_12 : mm_M} (HM : fr_Eq fr_M fr_1 fr_2 fr_3 fr_4 fr_5 fr_6 fr_7 fr_8 fr_9 fr_10 fr_11 fr_12) : fr_M.2.1 77 1 = (0 : Int32) := by
  rw [HM.1]
  exact all_cr_M_14.2.2.2.2.2.2.2.2.2.2.2.1
theorem fI_fr_M_77_11 {fr_M fr_1 fr_2 fr_3 fr_4 fr_5 fr_6 fr_7 fr_8 fr_9 fr_10 fr_11 fr_12 : mm_M} (HM : fr_Eq fr_M fr_1 fr_2 fr_3 fr_4 fr_5 fr_6 fr_7 fr_8 fr_9 fr_10 fr_11 fr_12) : fr_M.2.1 77 11 = (10 : Int32) := by
  rw [HM.1]
  exact all_cr_M_14.2.2.2.2.2.2.2.2.2.2.2.2.1
theorem fI_fr_M_77_12 {fr_M fr_1 fr_2 fr_3 fr_4 fr_5 fr_6 fr_7 fr_8 fr_9 fr_10 fr_11 fr_12 : mm_M} (HM : fr_Eq fr_M fr_1 fr_2 fr_3 fr_4 fr_5 fr_6 fr_7 fr_8 fr_9 fr_10 fr_11 fr_12) : fr_M.2.1 77 12 = (0 : Int32) := by
  rw [HM.1]
  exact all_cr_M_14.2.2.2.2.2.2.2.2.2.2.2.2.2
theorem all_cr_M_28 : (cr_M.2.1 77 13 = (0 : Int32)) ∧ (cr_M.2.1 77 28 = (0 : Int32)) ∧ (cr_M.2.1 77 29 = (0 : Int32)) ∧ (cr_M.2.1 77 4 = (0 : Int32)) ∧ (cr_M.2.1 77 41 = (0 : Int32)) ∧ (cr_M.2.1 77 42 = (0 : Int32)) ∧ (cr_M.2.1 77 43 = (0 : Int32)) ∧ (cr_M.2.1 77 5 = (-1 : Int32)) ∧ (cr_M.2.1 77 57 = (0 : Int32)) ∧ (cr_M.2.1 77 58 = (0 : Int32)) ∧ ((Nat.blt 2 cr_M.1.1.1 && Nat.ble 100 (cr_M.1.1.2.1 2) && Nat.ble (cr_M.1.1.2.1 2) 104) = true) ∧ (cr_M.1.1.2.2 100 = 6) ∧ (cr_M.1.1.2.2 125 = 1) ∧ (cr_M.1.1.2.2 25 = 6) := by decide +kernel
theorem fI_fr_M_77_13 {fr_M fr_1 fr_2 fr_3 fr_4 fr_5 fr_6 fr_7 fr_8 fr_9 fr_10 fr_11 fr_12 : mm_M} (HM : fr_Eq fr_M fr_1 fr_2 fr_3 fr_4 fr_5 fr_6 fr_7 fr_8 fr_9 fr_10 fr_11 fr_12) : fr_M.2.1 77 13 = (0 : Int32) := by
  rw [HM.1]
  exact all_cr_M_28.1
theorem fI_fr_M_77_28 {fr_M fr_1 fr_2 fr_3 fr_4 fr_5 fr_6 fr_7 fr_8 fr_9 fr_10 fr_11 fr_12 : mm_M} (HM : fr_Eq fr_M fr_1 fr_2 fr_3 fr_4 fr_5 fr_6 fr_7 fr_8 fr_9 fr_10 fr_11 fr_12) : fr_M.2.1 77 28 = (0 : Int32) := by
  rw [HM.1]
  exact all_cr_M_28.2.1
theorem fI_fr_M_77_29 {fr_M fr_1 fr_2 fr_3 fr_4 fr_5 fr_6 fr_7 fr_8 fr_9 fr_10 fr_11 fr_12 : mm_M} (HM : fr_Eq fr_M fr_1 fr_2 fr_3 fr_4 fr_5 fr_6 fr_7 fr_8 fr_9 fr_10 fr_11 fr_12) : fr_M.2.1 77 29 = (0 : Int32) := by
  rw [HM.1]
  exact all_cr_M_28.2.2.1
theorem fI_fr_M_77_4 {fr_M fr_1 fr_2 fr_3 fr_4 fr_5 fr_6 fr_7 fr_8 fr_9 fr_10 fr_11 fr_12 : mm_M} (HM : fr_Eq fr_M fr_1 fr_2 fr_3 fr_4 fr_5 fr_6 fr_7 fr_8 fr_9 fr_10 fr_11 fr_12) : fr_M.2.1 77 4 = (0 : Int32) := by
  rw [HM.1]
  exact all_cr_M_28.2.2.2.1
theorem fI_fr_M_77_41 {fr_M fr_1 fr_2 fr_3 fr_4 fr_5 fr_6 fr_7 fr_8 fr_9 fr_10 fr_11 fr_12 : mm_M} (HM : fr_Eq fr_M fr_1 fr_2 fr_3 fr_4 fr_5 fr_6 fr_7 fr_8 fr_9 fr_10 fr_11 fr_12) : fr_M.2.1 77 41 = (0 : Int32) := by
  rw [HM.1]
  exact all_cr_M_28.2.2.2.2.1
theorem fI_fr_M_77_42 {fr_M fr_1 fr_2 fr_3 fr_4 fr_5 fr_6 fr_7 fr_8 fr_9 fr_10 fr_11 fr_12 : mm_M} (HM : fr_Eq fr_M fr_1 fr_2 fr_3 fr_4 fr_5 fr_6 fr_7 fr_8 fr_9 fr_10 fr_11 fr_12) : fr_M.2.1 77 42 = (0 : Int32) := by
  rw [HM.1]
  exact all_cr_M_28.2.2.2.2.2.1
theorem fI_fr_M_77_43 {fr_M fr_1 fr_2 fr_3 fr_4 fr_5 fr_6 fr_7 fr_8 fr_9 fr_10 fr_11 fr_12 : mm_M} (HM : fr_Eq fr_M fr_1 fr_2 fr_3 fr_4 fr_5 fr_6 fr_7 fr_8 fr_9 fr_10 fr_11 fr_12) : fr_M.2.1 77 43 = (0 : Int32) := by
  rw [HM.1]
  exact all_cr_M_28.2.2.2.2.2.2.1
theorem fI_fr_M_77_5 {fr_M fr_1 fr_2 fr_3 fr_4 fr_5 fr_6 fr_7 fr_8 fr_9 fr_10 fr_11 fr_12 : mm_M} (HM : fr_Eq fr_M fr_1 fr_2 fr_3 fr_4 fr_5 fr_6 fr_7 fr_8 fr_9 fr_10 fr_11 fr_12) : fr_M.2.1 77 5 = (-1 : Int32) := by
  rw [HM.1]
  exact all_cr_M_28.2.2.2.2.2.2.2.1
theorem fI_fr_M_77_57 {fr_M fr_1 fr_2 fr_3 fr_4 fr_5 fr_6 fr_7 fr_8 fr_9 fr_10 fr_11 fr_12 : mm_M} (HM : fr_Eq fr_M fr_1 fr_2 fr_3 fr_4 fr_5 fr_6 fr_7 fr_8 fr_9 fr_10 fr_11 fr_12) : fr_M.2.1 77 57 = (0 : Int32) := by
  rw [HM.1]
  exact all_cr_M_28.2.2.2.2.2.2.2.2.1
theorem fI_fr_M_77_58 {fr_M fr_1 fr_2 fr_3 fr_4 fr_5 fr_6 fr_7 fr_8 fr_9 fr_10 fr_11 fr_12 : mm_M} (HM : fr_Eq fr_M fr_1 fr_2 fr_3 fr_4 fr_5 fr_6 fr_7 fr_8 fr_9 fr_10 fr_11 fr_12) : fr_M.2.1 77 58 = (0 : Int32) := by
  rw [HM.1]
  exact all_cr_M_28.2.2.2.2.2.2.2.2.2.1
theorem fK_fr_M_2_0 {fr_M fr_1 fr_2 fr_3 fr_4 fr_5 fr_6 fr_7 fr_8 fr_9 fr_10 fr_11 fr_12 : mm_M} (HM : fr_Eq fr_M fr_1 fr_2 fr_3 fr_4 fr_5 fr_6 fr_7 fr_8 fr_9 fr_10 fr_11 fr_12) : (Nat.blt 2 fr_M.1.1.1 && Nat.ble 100 (fr_M.1.1.2.1 2) && Nat.ble (fr_M.1.1.2.1 2) 104) = true := by
  rw [HM.1]
  exact all_cr_M_28.2.2.2.2.2.2.2.2.2.2.1
theorem fN_fr_M_100_0 {fr_M fr_1 fr_2 fr_3 fr_4 fr_5 fr_6 fr_7 fr_8 fr_9 fr_10 fr_11 fr_12 : mm_M} (HM : fr_Eq fr_M fr_1 fr_2 fr_3 fr_4 fr_5 fr_6 fr_7 fr_8 fr_9 fr_10 fr_11 fr_12) : fr_M.1.1.2.2 100 = 6 := by
  rw [HM.1]
  exact all_cr_M_28.2.2.2.2.2.2.2.2.2.2.2.1
theorem fN_fr_M_125_0 {fr_M fr_1 fr_2 fr_3 fr_4 fr_5 fr_6 fr_7 fr_8 fr_9 fr_10 fr_11 fr_12 : mm_M} (HM : fr_Eq fr_M fr_1 fr_2 fr_3 fr_4 fr_5 fr_6 fr_7 fr_8 fr_9 fr_10 fr_11 fr_12) : fr_M.1.1.2.2 125 = 1 := by
  rw [HM.1]
  exact all_cr_M_28.2.2.2.2.2.2.2.2.2.2.2.2.1
theorem fN_fr_M_25_0 {fr_M fr_1 fr_2 fr_3 fr_4 fr_5 fr_6 fr_7 fr_8 fr_9 fr_10 fr_11 fr_12 : mm_M} (HM : fr_Eq fr_M fr_1 fr_2 fr_3 fr_4 fr_5 fr_6 fr_7 fr_8 fr_9 fr_10 fr_11 fr_12) : fr_M.1.1.2.2 25 = 6 := by
  rw [HM.1]
  exact all_cr_M_28.2.2.2.2.2.2.2.2.2.2.2.2.2
theorem all_cr_M_42 : (cr_M.1.1.2.2 2 = 500) ∧ (cr_M.1.1.2.2 78 = 500) ∧ (mm_isObj cr_M 0 10 = true) ∧ (mm_isObj cr_M 100 100 = true) ∧ (mm_isObj cr_M 125 101 = true) ∧ (mm_isObj cr_M 17 4 = true) ∧ (mm_isObj cr_M 1 8 = true) ∧ (mm_isObj cr_M 25 100 = true) ∧ (mm_isObj cr_M 28 9 = true) ∧ (mm_isObj cr_M 2 103 = true) ∧ (mm_isObj cr_M 49 5 = true) ∧ (mm_isObj cr_M 67 6 = true) ∧ (mm_isObj cr_M 6 3 = true) ∧ (mm_isObj cr_M 77 11 = true) := by decide +kernel
theorem fN_fr_M_2_0 {fr_M fr_1 fr_2 fr_3 fr_4 fr_5 fr_6 fr_7 fr_8 fr_9 fr_10 fr_11 fr_12 : mm_M} (HM : fr_Eq fr_M fr_1 fr_2 fr_3 fr_4 fr_5 fr_6 fr_7 fr_8 fr_9 fr_10 fr_11 fr_12) : fr_M.1.1.2.2 2 = 500 := by
  rw [HM.1]
  exact all_cr_M_42.1
theorem fN_fr_M_78_0 {fr_M fr_1 fr_2 fr_3 fr_4 fr_5 fr_6 fr_7 fr_8 fr_9 fr_10 fr_11 fr_12 : mm_M} (HM : fr_Eq fr_M fr_1 fr_2 fr_3 fr_4 fr_5 fr_6 fr_7 fr_8 fr_9 fr_10 fr_11 fr_12) : fr_M.1.1.2.2 78 = 500 := by
  rw [HM.1]
  exact all_cr_M_42.2.1
theorem fO_fr_M_0_10 {fr_M fr_1 fr_2 fr_3 fr_4 fr_5 fr_6 fr_7 fr_8 fr_9 fr_10 fr_11 fr_12 : mm_M} (HM : fr_Eq fr_M fr_1 fr_2 fr_3 fr_4 fr_5 fr_6 fr_7 fr_8 fr_9 fr_10 fr_11 fr_12) : mm_isObj fr_M 0 10 = true := by
  rw [HM.1]
  exact all_cr_M_42.2.2.1
theorem fO_fr_M_100_100 {fr_M fr_1 fr_2 fr_3 fr_4 fr_5 fr_6 fr_7 fr_8 fr_9 fr_10 fr_11 fr_12 : mm_M} (HM : fr_Eq fr_M fr_1 fr_2 fr_3 fr_4 fr_5 fr_6 fr_7 fr_8 fr_9 fr_10 fr_11 fr_12) : mm_isObj fr_M 100 100 = true := by
  rw [HM.1]
  exact all_cr_M_42.2.2.2.1
theorem fO_fr_M_125_101 {fr_M fr_1 fr_2 fr_3 fr_4 fr_5 fr_6 fr_7 fr_8 fr_9 fr_10 fr_11 fr_12 : mm_M} (HM : fr_Eq fr_M fr_1 fr_2 fr_3 fr_4 fr_5 fr_6 fr_7 fr_8 fr_9 fr_10 fr_11 fr_12) : mm_isObj fr_M 125 101 = true := by
  rw [HM.1]
  exact all_cr_M_42.2.2.2.2.1
theorem fO_fr_M_17_4 {fr_M fr_1 fr_2 fr_3 fr_4 fr_5 fr_6 fr_7 fr_8 fr_9 fr_10 fr_11 fr_12 : mm_M} (HM : fr_Eq fr_M fr_1 fr_2 fr_3 fr_4 fr_5 fr_6 fr_7 fr_8 fr_9 fr_10 fr_11 fr_12) : mm_isObj fr_M 17 4 = true := by
  rw [HM.1]
  exact all_cr_M_42.2.2.2.2.2.1
theorem fO_fr_M_1_8 {fr_M fr_1 fr_2 fr_3 fr_4 fr_5 fr_6 fr_7 fr_8 fr_9 fr_10 fr_11 fr_12 : mm_M} (HM : fr_Eq fr_M fr_1 fr_2 fr_3 fr_4 fr_5 fr_6 fr_7 fr_8 fr_9 fr_10 fr_11 fr_12) : mm_isObj fr_M 1 8 = true := by
  rw [HM.1]
  exact all_cr_M_42.2.2.2.2.2.2.1
theorem fO_fr_M_25_100 {fr_M fr_1 fr_2 fr_3 fr_4 fr_5 fr_6 fr_7 fr_8 fr_9 fr_10 fr_11 fr_12 : mm_M} (HM : fr_Eq fr_M fr_1 fr_2 fr_3 fr_4 fr_5 fr_6 fr_7 fr_8 fr_9 fr_10 fr_11 fr_12) : mm_isObj fr_M 25 100 = true := by
  rw [HM.1]
  exact all_cr_M_42.2.2.2.2.2.2.2.1
theorem fO_fr_M_28_9 {fr_M fr_1 fr_2 fr_3 fr_4 fr_5 fr_6 fr_7 fr_8 fr_9 fr_10 fr_11 fr_12 : mm_M} (HM : fr_Eq fr_M fr_1 fr_2 fr_3 fr_4 fr_5 fr_6 fr_7 fr_8 fr_9 fr_10 fr_11 fr_12) : mm_isObj fr_M 28 9 = true := by
  rw [HM.1]
  exact all_cr_M_42.2.2.2.2.2.2.2.2.1
theorem fO_fr_M_2_103 {fr_M fr_1 fr_2 fr_3 fr_4 fr_5 fr_6 fr_7 fr_8 fr_9 fr_10 fr_11 fr_12 : mm_M} (HM : fr_Eq fr_M fr_1 fr_2 fr_3 fr_4 fr_5 fr_6 fr_7 fr_8 fr_9 fr_10 fr_11 fr_12) : mm_isObj fr_M 2 103 = true := by
  rw [HM.1]
  exact all_cr_M_42.2.2.2.2.2.2.2.2.2.1
theorem fO_fr_M_49_5 {fr_M fr_1 fr_2 fr_3 fr_4 fr_5 fr_6 fr_7 fr_8 fr_9 fr_10 fr_11 fr_12 : mm_M} (HM : fr_Eq fr_M fr_1 fr_2 fr_3 fr_4 fr_5 fr_6 fr_7 fr_8 fr_9 fr_10 fr_11 fr_12) : mm_isObj fr_M 49 5 = true := by
  rw [HM.1]
  exact all_cr_M_42.2.2.2.2.2.2.2.2.2.2.1
theorem fO_fr_M_67_6 {fr_M fr_1 fr_2 fr_3 fr_4 fr_5 fr_6 fr_7 fr_8 fr_9 fr_10 fr_11 fr_12 : mm_M} (HM : fr_Eq fr_M fr_1 fr_2 fr_3 fr_4 fr_5 fr_6 fr_7 fr_8 fr_9 fr_10 fr_11 fr_12) : mm_isObj fr_M 67 6 = true := by
  rw [HM.1]
  exact all_cr_M_42.2.2.2.2.2.2.2.2.2.2.2.1
theorem fO_fr_M_6_3 {fr_M fr_1 fr_2 fr_3 fr_4 fr_5 fr_6 fr_7 fr_8 fr_9 fr_10 fr_11 fr_12 : mm_M} (HM : fr_Eq fr_M fr_1 fr_2 fr_3 fr_4 fr_5 fr_6 fr_7 fr_8 fr_9 fr_10 fr_11 fr_12) : mm_isObj fr_M 6 3 = true := by
  rw [HM.1]
  exact all_cr_M_42.2.2.2.2.2.2.2.2.2.2.2.2.1
theorem fO_fr_M_77_11 {fr_M fr_1 fr_2 fr_3 fr_4 fr_5 fr_6 fr_7 fr_8 fr_9 fr_10 fr_11 fr_12 : mm_M} (HM : fr_Eq fr_M fr_1 fr_2 fr_3 fr_4 fr_5 fr_6 fr_7 fr_8 fr_9 fr_10 fr_11 fr_12) : mm_isObj fr_M 77 11 = true := by
  rw [HM.1]
  exact all_cr_M_42.2.2.2.2.2.2.2.2.2.2.2.2.2
theorem all_cr_M_56 : (mm_isObj cr_M 78 100 = true) ∧ (cr_M.2.2.2 0 0 = some 1) ∧ (cr_M.2.2.2 0 1 = some 6) ∧ (cr_M.2.2.2 0 10 = some 67) ∧ (cr_M.2.2.2 0 3 = some 17) ∧ (cr_M.2.2.2 0 4 = some 28) ∧ (cr_M.2.2.2 0 8 = some 49) ∧ (cr_M.2.2.2 17 1 = some 25) ∧ (cr_M.2.2.2 1 0 = some 2) ∧ (cr_M.2.2.2 49 10 = some 55) ∧ (cr_M.2.2.2 49 5 = some 50) ∧ (cr_M.2.2.2 77 0 = some 78) ∧ (cr_M.2.2.2 77 40 = some 100) ∧ (mm_isObj cr_M 2 102 = false) := by decide +kernel
theorem fO_fr_M_78_100 {fr_M fr_1 fr_2 fr_3 fr_4 fr_5 fr_6 fr_7 fr_8 fr_9 fr_10 fr_11 fr_12 : mm_M} (HM : fr_Eq fr_M fr_1 fr_2 fr_3 fr_4 fr_5 fr_6 fr_7 fr_8 fr_9 fr_10 fr_11 fr_12) : mm_isObj fr_M 78 100 = true := by
  rw [HM.1]
  exact all_cr_M_56.1
theorem fR_fr_M_0_0 {fr_M fr_1 fr_2 fr_3 fr_4 fr_5 fr_6 fr_7 fr_8 fr_9 fr_10 fr_11 fr_12 : mm_M} (HM : fr_Eq fr_M fr_1 fr_2 fr_3 fr_4 fr_5 fr_6 fr_7 fr_8 fr_9 fr_10 fr_11 fr_12) : fr_M.2.2.2 0 0 = some 1 := by
  rw [HM.1]
  exact all_cr_M_56.2.1
theorem fR_fr_M_0_1 {fr_M fr_1 fr_2 fr_3 fr_4 fr_5 fr_6 fr_7 fr_8 fr_9 fr_10 fr_11 fr_12 : mm_M} (HM : fr_Eq fr_M fr_1 fr_2 fr_3 fr_4 fr_5 fr_6 fr_7 fr_8 fr_9 fr_10 fr_11 fr_12) : fr_M.2.2.2 0 1 = some 6 := by
  rw [HM.1]
  exact all_cr_M_56.2.2.1
theorem fR_fr_M_0_10 {fr_M fr_1 fr_2 fr_3 fr_4 fr_5 fr_6 fr_7 fr_8 fr_9 fr_10 fr_11 fr_12 : mm_M} (HM : fr_Eq fr_M fr_1 fr_2 fr_3 fr_4 fr_5 fr_6 fr_7 fr_8 fr_9 fr_10 fr_11 fr_12) : fr_M.2.2.2 0 10 = some 67 := by
  rw [HM.1]
  exact all_cr_M_56.2.2.2.1
theorem fR_fr_M_0_3 {fr_M fr_1 fr_2 fr_3 fr_4 fr_5 fr_6 fr_7 fr_8 fr_9 fr_10 fr_11 fr_12 : mm_M} (HM : fr_Eq fr_M fr_1 fr_2 fr_3 fr_4 fr_5 fr_6 fr_7 fr_8 fr_9 fr_10 fr_11 fr_12) : fr_M.2.2.2 0 3 = some 17 := by
  rw [HM.1]
  exact all_cr_M_56.2.2.2.2.1
theorem fR_fr_M_0_4 {fr_M fr_1 fr_2 fr_3 fr_4 fr_5 fr_6 fr_7 fr_8 fr_9 fr_10 fr_11 fr_12 : mm_M} (HM : fr_Eq fr_M fr_1 fr_2 fr_3 fr_4 fr_5 fr_6 fr_7 fr_8 fr_9 fr_10 fr_11 fr_12) : fr_M.2.2.2 0 4 = some 28 := by
  rw [HM.1]
  exact all_cr_M_56.2.2.2.2.2.1
theorem fR_fr_M_0_8 {fr_M fr_1 fr_2 fr_3 fr_4 fr_5 fr_6 fr_7 fr_8 fr_9 fr_10 fr_11 fr_12 : mm_M} (HM : fr_Eq fr_M fr_1 fr_2 fr_3 fr_4 fr_5 fr_6 fr_7 fr_8 fr_9 fr_10 fr_11 fr_12) : fr_M.2.2.2 0 8 = some 49 := by
  rw [HM.1]
  exact all_cr_M_56.2.2.2.2.2.2.1
theorem fR_fr_M_17_1 {fr_M fr_1 fr_2 fr_3 fr_4 fr_5 fr_6 fr_7 fr_8 fr_9 fr_10 fr_11 fr_12 : mm_M} (HM : fr_Eq fr_M fr_1 fr_2 fr_3 fr_4 fr_5 fr_6 fr_7 fr_8 fr_9 fr_10 fr_11 fr_12) : fr_M.2.2.2 17 1 = some 25 := by
  rw [HM.1]
  exact all_cr_M_56.2.2.2.2.2.2.2.1
theorem fR_fr_M_1_0 {fr_M fr_1 fr_2 fr_3 fr_4 fr_5 fr_6 fr_7 fr_8 fr_9 fr_10 fr_11 fr_12 : mm_M} (HM : fr_Eq fr_M fr_1 fr_2 fr_3 fr_4 fr_5 fr_6 fr_7 fr_8 fr_9 fr_10 fr_11 fr_12) : fr_M.2.2.2 1 0 = some 2 := by
  rw [HM.1]
  exact all_cr_M_56.2.2.2.2.2.2.2.2.1
theorem fR_fr_M_49_10 {fr_M fr_1 fr_2 fr_3 fr_4 fr_5 fr_6 fr_7 fr_8 fr_9 fr_10 fr_11 fr_12 : mm_M} (HM : fr_Eq fr_M fr_1 fr_2 fr_3 fr_4 fr_5 fr_6 fr_7 fr_8 fr_9 fr_10 fr_11 fr_12) : fr_M.2.2.2 49 10 = some 55 := by
  rw [HM.1]
  exact all_cr_M_56.2.2.2.2.2.2.2.2.2.1
theorem fR_fr_M_49_5 {fr_M fr_1 fr_2 fr_3 fr_4 fr_5 fr_6 fr_7 fr_8 fr_9 fr_10 fr_11 fr_12 : mm_M} (HM : fr_Eq fr_M fr_1 fr_2 fr_3 fr_4 fr_5 fr_6 fr_7 fr_8 fr_9 fr_10 fr_11 fr_12) : fr_M.2.2.2 49 5 = some 50 := by
  rw [HM.1]
  exact all_cr_M_56.2.2.2.2.2.2.2.2.2.2.1
theorem fR_fr_M_77_0 {fr_M fr_1 fr_2 fr_3 fr_4 fr_5 fr_6 fr_7 fr_8 fr_9 fr_10 fr_11 fr_12 : mm_M} (HM : fr_Eq fr_M fr_1 fr_2 fr_3 fr_4 fr_5 fr_6 fr_7 fr_8 fr_9 fr_10 fr_11 fr_12) : fr_M.2.2.2 77 0 = some 78 := by
  rw [HM.1]
  exact all_cr_M_56.2.2.2.2.2.2.2.2.2.2.2.1
theorem fR_fr_M_77_40 {fr_M fr_1 fr_2 fr_3 fr_4 fr_5 fr_6 fr_7 fr_8 fr_9 fr_10 fr_11 fr_12 : mm_M} (HM : fr_Eq fr_M fr_1 fr_2 fr_3 fr_4 fr_5 fr_6 fr_7 fr_8 fr_9 fr_10 fr_11 fr_12) : fr_M.2.2.2 77 40 = some 100 := by
  rw [HM.1]
  exact all_cr_M_56.2.2.2.2.2.2.2.2.2.2.2.2.1
theorem fX_fr_M_2_102 {fr_M fr_1 fr_2 fr_3 fr_4 fr_5 fr_6 fr_7 fr_8 fr_9 fr_10 fr_11 fr_12 : mm_M} (HM : fr_Eq fr_M fr_1 fr_2 fr_3 fr_4 fr_5 fr_6 fr_7 fr_8 fr_9 fr_10 fr_11 fr_12) : mm_isObj fr_M 2 102 = false := by
  rw [HM.1]
  exact all_cr_M_56.2.2.2.2.2.2.2.2.2.2.2.2.2
