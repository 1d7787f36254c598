/-! what each operation does on the fresh state -/
set_option maxHeartbeats 0 in
set_option maxRecDepth 4000 in
theorem op_1 {fr_M fr_1 fr_2 fr_3 fr_4 fr_5 fr_6 fr_7 fr_8 fr_9 fr_10 fr_11 fr_12 : mm_M} (HM : fr_Eq fr_M fr_1 fr_2 fr_3 fr_4 fr_5 fr_6 fr_7 fr_8 fr_9 fr_10 fr_11 fr_12) {xs : Nat → Int32} {x1 x2 x3 x4 x5 : Int32} (hx1 : xs 1 = x1) (hx2 : xs 2 = x2) (hx3 : xs 3 = x3) (hx4 : xs 4 = x4) (hx5 : xs 5 = x5) : mm_T (fr_X 6 xs) 40 0 249 [.ref mm_ext, .ref 0, .ref 77, .ref 125, .int 0, .null, .null] [] fr_M op_Q := by
  have z0 : (0 : Int32).toInt = 0 := rfl
  have fC_fr_2 := fC_fr_2 HM
  have fC_fr_M := fC_fr_M HM
  have fI_fr_M_1_1 := fI_fr_M_1_1 HM
  have fI_fr_M_77_1 := fI_fr_M_77_1 HM
  have fO_fr_1_77_11 := fO_fr_1_77_11 HM
  have fO_fr_M_0_10 := fO_fr_M_0_10 HM
  have fO_fr_M_1_8 := fO_fr_M_1_8 HM
  have fO_fr_M_77_11 := fO_fr_M_77_11 HM
  have fR_fr_M_0_0 := fR_fr_M_0_0 HM
  by_cases h0 : x1 = (0 : Int32)
  · subst h0
    refine to_an (pc := 249) rw_0_249 rfl ?_
    refine to_an (pc := 250) rw_0_250 rfl ?_
    refine to_i (pc := 251) rw_0_251 rfl ?_
    refine to_c (pc := 253) rw_0_253 (x := (1 : Int32)) rfl rfl ?_
    refine to_2 (pc := 254) rw_0_254 (v := (1 : Int32)) (by decide +kernel) ?_
    refine op_x (pc := 255) rw_0_255 (k := 1) (by decide +kernel) hx1 ?_
    refine to_v (pc := 256) rw_0_256 (hi := rfl) (ls0 := [.ref 0, .int (0 : Int32), .null]) rfl (Nat.le_of_ble_eq_true rfl) (Nat.le_of_ble_eq_true rfl) rfl (to_rc rfl rfl rfl fO_fr_M_0_10) rfl ?_
    refine (fr_1_T HM) ?_
    refine to_an (pc := 259) rw_0_259 rfl ?_
    refine to_an (pc := 260) rw_0_260 rfl ?_
    refine to_i (pc := 261) rw_0_261 rfl ?_
    refine to_c (pc := 263) rw_0_263 (x := (1 : Int32)) rfl rfl ?_
    refine to_2 (pc := 264) rw_0_264 (v := (1 : Int32)) (by decide +kernel) ?_
    refine op_x (pc := 265) rw_0_265 (k := 1) (by decide +kernel) hx1 ?_
    refine to_v (pc := 266) rw_0_266 (hi := rfl) (ls0 := [.ref 77, .int (0 : Int32), .null]) rfl (Nat.le_of_ble_eq_true rfl) (Nat.le_of_ble_eq_true rfl) rfl (to_rc rfl rfl rfl fO_fr_1_77_11) rfl ?_
    refine (fr_2_T HM) ?_
    refine to_ict (pc := 269) rw_0_269 (by decide +kernel) ?_
    exact op_tail (op_c fC_fr_2)
  · have h0 := cd_ne h0
    rcases Int.lt_or_le x1.toInt 0 with h00 | h00
    · refine to_an (pc := 249) rw_0_249 rfl ?_
      refine to_an (pc := 250) rw_0_250 rfl ?_
      refine to_i (pc := 251) rw_0_251 rfl ?_
      refine to_c (pc := 253) rw_0_253 (x := (1 : Int32)) rfl rfl ?_
      refine to_2 (pc := 254) rw_0_254 (v := (1 : Int32)) (by decide +kernel) ?_
      refine op_x (pc := 255) rw_0_255 (k := 1) (by decide +kernel) hx1 ?_
      refine to_v (pc := 256) rw_0_256 (hi := rfl) (ls0 := [.ref 0, .int _, .null]) rfl (Nat.le_of_ble_eq_true rfl) (Nat.le_of_ble_eq_true rfl) rfl (to_rc rfl rfl rfl fO_fr_M_0_10) rfl ?_
      refine to_an (pc := 0) rw_111_0 rfl ?_
      refine tt_gR (pc := 1) rw_111_1 fO_fr_M_0_10 fR_fr_M_0_0 ?_
      refine to_in (pc := 4) rw_111_4 rfl ?_
      refine to_v (pc := 5) rw_111_5 (hi := rfl) (ls0 := [.ref 1, .int _]) rfl (Nat.le_of_ble_eq_true rfl) (Nat.le_of_ble_eq_true rfl) rfl (to_rc rfl rfl rfl fO_fr_M_1_8) rfl ?_
      refine to_in (pc := 0) rw_78_0 rfl ?_
      refine to_ift (pc := 1) rw_78_1 (cd_of (c := .lt) (show x1.toInt < (0 : Int32).toInt from (by have e1 : (0 : Int32).toInt = 0 := rfl; omega))) ?_
      refine to_c (pc := 12) rw_78_12 (x := (0 : Int32)) rfl rfl ?_
      refine to_r1 (pc := 13) rw_78_13 (by decide +kernel) ?_
      refine to_iff (pc := 8) rw_111_8 (by decide +kernel) ?_
      refine to_c (pc := 11) rw_111_11 (x := (-2 : Int32)) rfl rfl ?_
      refine to_r0 (pc := 13) rw_111_13 ?_
      refine to_an (pc := 259) rw_0_259 rfl ?_
      refine to_an (pc := 260) rw_0_260 rfl ?_
      refine to_i (pc := 261) rw_0_261 rfl ?_
      refine to_c (pc := 263) rw_0_263 (x := (1 : Int32)) rfl rfl ?_
      refine to_2 (pc := 264) rw_0_264 (v := (1 : Int32)) (by decide +kernel) ?_
      refine op_x (pc := 265) rw_0_265 (k := 1) (by decide +kernel) hx1 ?_
      refine to_v (pc := 266) rw_0_266 (hi := rfl) (ls0 := [.ref 77, .int _, .null]) rfl (Nat.le_of_ble_eq_true rfl) (Nat.le_of_ble_eq_true rfl) rfl (to_rc rfl rfl rfl fO_fr_M_77_11) rfl ?_
      refine to_an (pc := 0) rw_173_0 rfl ?_
      refine to_c (pc := 1) rw_173_1 (x := (0 : Int32)) rfl rfl ?_
      refine tt_pI (pc := 2) rw_173_2 fO_fr_M_77_11 ?_
      refine to_an (pc := 5) rw_173_5 rfl ?_
      refine to_in (pc := 6) rw_173_6 rfl ?_
      refine to_v (pc := 7) rw_173_7 (hi := rfl) (ls0 := [.ref 77, .int _]) rfl (Nat.le_of_ble_eq_true rfl) (Nat.le_of_ble_eq_true rfl) rfl (to_rc rfl rfl rfl fO_fr_M_77_11) rfl ?_
      refine to_in (pc := 0) rw_163_0 rfl ?_
      refine to_ift (pc := 1) rw_163_1 (cd_of (c := .lt) (show x1.toInt < (0 : Int32).toInt from (by have e1 : (0 : Int32).toInt = 0 := rfl; omega))) ?_
      refine to_c (pc := 12) rw_163_12 (x := (0 : Int32)) rfl rfl ?_
      refine to_r1 (pc := 13) rw_163_13 (by decide +kernel) ?_
      refine to_iff (pc := 10) rw_173_10 (by decide +kernel) ?_
      refine to_c (pc := 13) rw_173_13 (x := (-2 : Int32)) rfl rfl ?_
      refine to_r0 (pc := 15) rw_173_15 ?_
      refine to_ict (pc := 269) rw_0_269 (by decide +kernel) ?_
      exact op_tail (op_c fC_fr_M)
    · refine to_an (pc := 249) rw_0_249 rfl ?_
      refine to_an (pc := 250) rw_0_250 rfl ?_
      refine to_i (pc := 251) rw_0_251 rfl ?_
      refine to_c (pc := 253) rw_0_253 (x := (1 : Int32)) rfl rfl ?_
      refine to_2 (pc := 254) rw_0_254 (v := (1 : Int32)) (by decide +kernel) ?_
      refine op_x (pc := 255) rw_0_255 (k := 1) (by decide +kernel) hx1 ?_
      refine to_v (pc := 256) rw_0_256 (hi := rfl) (ls0 := [.ref 0, .int _, .null]) rfl (Nat.le_of_ble_eq_true rfl) (Nat.le_of_ble_eq_true rfl) rfl (to_rc rfl rfl rfl fO_fr_M_0_10) rfl ?_
      refine to_an (pc := 0) rw_111_0 rfl ?_
      refine tt_gR (pc := 1) rw_111_1 fO_fr_M_0_10 fR_fr_M_0_0 ?_
      refine to_in (pc := 4) rw_111_4 rfl ?_
      refine to_v (pc := 5) rw_111_5 (hi := rfl) (ls0 := [.ref 1, .int _]) rfl (Nat.le_of_ble_eq_true rfl) (Nat.le_of_ble_eq_true rfl) rfl (to_rc rfl rfl rfl fO_fr_M_1_8) rfl ?_
      refine to_in (pc := 0) rw_78_0 rfl ?_
      refine to_iff (pc := 1) rw_78_1 (cd_no (c := .lt) (show ¬ x1.toInt < (0 : Int32).toInt from (by have e1 : (0 : Int32).toInt = 0 := rfl; omega))) ?_
      refine to_in (pc := 4) rw_78_4 rfl ?_
      refine to_an (pc := 5) rw_78_5 rfl ?_
      refine tt_gI (pc := 6) rw_78_6 fO_fr_M_1_8 fI_fr_M_1_1 ?_
      refine to_icf (pc := 9) rw_78_9 (cd_no (c := .le) (show ¬ x1.toInt ≤ (0 : Int32).toInt from (by have e1 : (0 : Int32).toInt = 0 := rfl; omega))) ?_
      refine to_c (pc := 12) rw_78_12 (x := (0 : Int32)) rfl rfl ?_
      refine to_r1 (pc := 13) rw_78_13 (by decide +kernel) ?_
      refine to_iff (pc := 8) rw_111_8 (by decide +kernel) ?_
      refine to_c (pc := 11) rw_111_11 (x := (-2 : Int32)) rfl rfl ?_
      refine to_r0 (pc := 13) rw_111_13 ?_
      refine to_an (pc := 259) rw_0_259 rfl ?_
      refine to_an (pc := 260) rw_0_260 rfl ?_
      refine to_i (pc := 261) rw_0_261 rfl ?_
      refine to_c (pc := 263) rw_0_263 (x := (1 : Int32)) rfl rfl ?_
      refine to_2 (pc := 264) rw_0_264 (v := (1 : Int32)) (by decide +kernel) ?_
      refine op_x (pc := 265) rw_0_265 (k := 1) (by decide +kernel) hx1 ?_
      refine to_v (pc := 266) rw_0_266 (hi := rfl) (ls0 := [.ref 77, .int _, .null]) rfl (Nat.le_of_ble_eq_true rfl) (Nat.le_of_ble_eq_true rfl) rfl (to_rc rfl rfl rfl fO_fr_M_77_11) rfl ?_
      refine to_an (pc := 0) rw_173_0 rfl ?_
      refine to_c (pc := 1) rw_173_1 (x := (0 : Int32)) rfl rfl ?_
      refine tt_pI (pc := 2) rw_173_2 fO_fr_M_77_11 ?_
      refine to_an (pc := 5) rw_173_5 rfl ?_
      refine to_in (pc := 6) rw_173_6 rfl ?_
      refine to_v (pc := 7) rw_173_7 (hi := rfl) (ls0 := [.ref 77, .int _]) rfl (Nat.le_of_ble_eq_true rfl) (Nat.le_of_ble_eq_true rfl) rfl (to_rc rfl rfl rfl fO_fr_M_77_11) rfl ?_
      refine to_in (pc := 0) rw_163_0 rfl ?_
      refine to_iff (pc := 1) rw_163_1 (cd_no (c := .lt) (show ¬ x1.toInt < (0 : Int32).toInt from (by have e1 : (0 : Int32).toInt = 0 := rfl; omega))) ?_
      refine to_in (pc := 4) rw_163_4 rfl ?_
      refine to_an (pc := 5) rw_163_5 rfl ?_
      refine tt_gI (pc := 6) rw_163_6 fO_fr_M_77_11 (rI_n rfl fI_fr_M_77_1) ?_
      refine to_icf (pc := 9) rw_163_9 (cd_no (c := .le) (show ¬ x1.toInt ≤ (0 : Int32).toInt from (by have e1 : (0 : Int32).toInt = 0 := rfl; omega))) ?_
      refine to_c (pc := 12) rw_163_12 (x := (0 : Int32)) rfl rfl ?_
      refine to_r1 (pc := 13) rw_163_13 (by decide +kernel) ?_
      refine to_iff (pc := 10) rw_173_10 (by decide +kernel) ?_
      refine to_c (pc := 13) rw_173_13 (x := (-2 : Int32)) rfl rfl ?_
      refine to_r0 (pc := 15) rw_173_15 ?_
      refine to_ict (pc := 269) rw_0_269 (by decide +kernel) ?_
      exact op_tail (op_c fC_fr_M)
set_option maxHeartbeats 0 in
set_option maxRecDepth 4000 in
theorem op_2 {fr_M fr_1 fr_2 fr_3 fr_4 fr_5 fr_6 fr_7 fr_8 fr_9 fr_10 fr_11 fr_12 : mm_M} (HM : fr_Eq fr_M fr_1 fr_2 fr_3 fr_4 fr_5 fr_6 fr_7 fr_8 fr_9 fr_10 fr_11 fr_12) {xs : Nat → Int32} {x1 x2 x3 x4 x5 : Int32} (hx1 : xs 1 = x1) (hx2 : xs 2 = x2) (hx3 : xs 3 = x3) (hx4 : xs 4 = x4) (hx5 : xs 5 = x5) : mm_T (fr_X 6 xs) 40 0 274 [.ref mm_ext, .ref 0, .ref 77, .ref 125, .int 0, .null, .null] [] fr_M op_Q := by
  have z0 : (0 : Int32).toInt = 0 := rfl
  have fC_fr_4 := fC_fr_4 HM
  have fC_fr_M := fC_fr_M HM
  have fI_fr_M_1_1 := fI_fr_M_1_1 HM
  have fI_fr_M_77_1 := fI_fr_M_77_1 HM
  have fO_fr_3_77_11 := fO_fr_3_77_11 HM
  have fO_fr_M_0_10 := fO_fr_M_0_10 HM
  have fO_fr_M_1_8 := fO_fr_M_1_8 HM
  have fO_fr_M_77_11 := fO_fr_M_77_11 HM
  have fR_fr_M_0_0 := fR_fr_M_0_0 HM
  by_cases h0 : x1 = (0 : Int32)
  · subst h0
    refine to_an (pc := 274) rw_0_274 rfl ?_
    refine to_an (pc := 275) rw_0_275 rfl ?_
    refine to_i (pc := 276) rw_0_276 rfl ?_
    refine to_c (pc := 278) rw_0_278 (x := (1 : Int32)) rfl rfl ?_
    refine to_2 (pc := 279) rw_0_279 (v := (1 : Int32)) (by decide +kernel) ?_
    refine op_x (pc := 280) rw_0_280 (k := 1) (by decide +kernel) hx1 ?_
    refine to_v (pc := 281) rw_0_281 (hi := rfl) (ls0 := [.ref 0, .int (0 : Int32)]) rfl (Nat.le_of_ble_eq_true rfl) (Nat.le_of_ble_eq_true rfl) rfl (to_rc rfl rfl rfl fO_fr_M_0_10) rfl ?_
    refine (fr_3_T HM) ?_
    refine to_an (pc := 284) rw_0_284 rfl ?_
    refine to_an (pc := 285) rw_0_285 rfl ?_
    refine to_i (pc := 286) rw_0_286 rfl ?_
    refine to_c (pc := 288) rw_0_288 (x := (1 : Int32)) rfl rfl ?_
    refine to_2 (pc := 289) rw_0_289 (v := (1 : Int32)) (by decide +kernel) ?_
    refine op_x (pc := 290) rw_0_290 (k := 1) (by decide +kernel) hx1 ?_
    refine to_v (pc := 291) rw_0_291 (hi := rfl) (ls0 := [.ref 77, .int (0 : Int32)]) rfl (Nat.le_of_ble_eq_true rfl) (Nat.le_of_ble_eq_true rfl) rfl (to_rc rfl rfl rfl fO_fr_3_77_11) rfl ?_
    refine (fr_4_T HM) ?_
    refine to_ict (pc := 294) rw_0_294 (by decide +kernel) ?_
    exact op_tail (op_c fC_fr_4)
  · have h0 := cd_ne h0
    rcases Int.lt_or_le x1.toInt 0 with h00 | h00
    · refine to_an (pc := 274) rw_0_274 rfl ?_
      refine to_an (pc := 275) rw_0_275 rfl ?_
      refine to_i (pc := 276) rw_0_276 rfl ?_
      refine to_c (pc := 278) rw_0_278 (x := (1 : Int32)) rfl rfl ?_
      refine to_2 (pc := 279) rw_0_279 (v := (1 : Int32)) (by decide +kernel) ?_
      refine op_x (pc := 280) rw_0_280 (k := 1) (by decide +kernel) hx1 ?_
      refine to_v (pc := 281) rw_0_281 (hi := rfl) (ls0 := [.ref 0, .int _]) rfl (Nat.le_of_ble_eq_true rfl) (Nat.le_of_ble_eq_true rfl) rfl (to_rc rfl rfl rfl fO_fr_M_0_10) rfl ?_
      refine to_an (pc := 0) rw_112_0 rfl ?_
      refine tt_gR (pc := 1) rw_112_1 fO_fr_M_0_10 fR_fr_M_0_0 ?_
      refine to_in (pc := 4) rw_112_4 rfl ?_
      refine to_v (pc := 5) rw_112_5 (hi := rfl) (ls0 := [.ref 1, .int _]) rfl (Nat.le_of_ble_eq_true rfl) (Nat.le_of_ble_eq_true rfl) rfl (to_rc rfl rfl rfl fO_fr_M_1_8) rfl ?_
      refine to_in (pc := 0) rw_78_0 rfl ?_
      refine to_ift (pc := 1) rw_78_1 (cd_of (c := .lt) (show x1.toInt < (0 : Int32).toInt from (by have e1 : (0 : Int32).toInt = 0 := rfl; omega))) ?_
      refine to_c (pc := 12) rw_78_12 (x := (0 : Int32)) rfl rfl ?_
      refine to_r1 (pc := 13) rw_78_13 (by decide +kernel) ?_
      refine to_iff (pc := 8) rw_112_8 (by decide +kernel) ?_
      refine to_c (pc := 11) rw_112_11 (x := (-2 : Int32)) rfl rfl ?_
      refine to_r0 (pc := 13) rw_112_13 ?_
      refine to_an (pc := 284) rw_0_284 rfl ?_
      refine to_an (pc := 285) rw_0_285 rfl ?_
      refine to_i (pc := 286) rw_0_286 rfl ?_
      refine to_c (pc := 288) rw_0_288 (x := (1 : Int32)) rfl rfl ?_
      refine to_2 (pc := 289) rw_0_289 (v := (1 : Int32)) (by decide +kernel) ?_
      refine op_x (pc := 290) rw_0_290 (k := 1) (by decide +kernel) hx1 ?_
      refine to_v (pc := 291) rw_0_291 (hi := rfl) (ls0 := [.ref 77, .int _]) rfl (Nat.le_of_ble_eq_true rfl) (Nat.le_of_ble_eq_true rfl) rfl (to_rc rfl rfl rfl fO_fr_M_77_11) rfl ?_
      refine to_an (pc := 0) rw_219_0 rfl ?_
      refine to_c (pc := 1) rw_219_1 (x := (0 : Int32)) rfl rfl ?_
      refine tt_pI (pc := 2) rw_219_2 fO_fr_M_77_11 ?_
      refine to_an (pc := 5) rw_219_5 rfl ?_
      refine to_in (pc := 6) rw_219_6 rfl ?_
      refine to_v (pc := 7) rw_219_7 (hi := rfl) (ls0 := [.ref 77, .int _]) rfl (Nat.le_of_ble_eq_true rfl) (Nat.le_of_ble_eq_true rfl) rfl (to_rc rfl rfl rfl fO_fr_M_77_11) rfl ?_
      refine to_in (pc := 0) rw_163_0 rfl ?_
      refine to_ift (pc := 1) rw_163_1 (cd_of (c := .lt) (show x1.toInt < (0 : Int32).toInt from (by have e1 : (0 : Int32).toInt = 0 := rfl; omega))) ?_
      refine to_c (pc := 12) rw_163_12 (x := (0 : Int32)) rfl rfl ?_
      refine to_r1 (pc := 13) rw_163_13 (by decide +kernel) ?_
      refine to_iff (pc := 10) rw_219_10 (by decide +kernel) ?_
      refine to_c (pc := 13) rw_219_13 (x := (-2 : Int32)) rfl rfl ?_
      refine to_r0 (pc := 15) rw_219_15 ?_
      refine to_ict (pc := 294) rw_0_294 (by decide +kernel) ?_
      exact op_tail (op_c fC_fr_M)
    · refine to_an (pc := 274) rw_0_274 rfl ?_
      refine to_an (pc := 275) rw_0_275 rfl ?_
      refine to_i (pc := 276) rw_0_276 rfl ?_
      refine to_c (pc := 278) rw_0_278 (x := (1 : Int32)) rfl rfl ?_
      refine to_2 (pc := 279) rw_0_279 (v := (1 : Int32)) (by decide +kernel) ?_
      refine op_x (pc := 280) rw_0_280 (k := 1) (by decide +kernel) hx1 ?_
      refine to_v (pc := 281) rw_0_281 (hi := rfl) (ls0 := [.ref 0, .int _]) rfl (Nat.le_of_ble_eq_true rfl) (Nat.le_of_ble_eq_true rfl) rfl (to_rc rfl rfl rfl fO_fr_M_0_10) rfl ?_
      refine to_an (pc := 0) rw_112_0 rfl ?_
      refine tt_gR (pc := 1) rw_112_1 fO_fr_M_0_10 fR_fr_M_0_0 ?_
      refine to_in (pc := 4) rw_112_4 rfl ?_
      refine to_v (pc := 5) rw_112_5 (hi := rfl) (ls0 := [.ref 1, .int _]) rfl (Nat.le_of_ble_eq_true rfl) (Nat.le_of_ble_eq_true rfl) rfl (to_rc rfl rfl rfl fO_fr_M_1_8) rfl ?_
      refine to_in (pc := 0) rw_78_0 rfl ?_
      refine to_iff (pc := 1) rw_78_1 (cd_no (c := .lt) (show ¬ x1.toInt < (0 : Int32).toInt from (by have e1 : (0 : Int32).toInt = 0 := rfl; omega))) ?_
      refine to_in (pc := 4) rw_78_4 rfl ?_
      refine to_an (pc := 5) rw_78_5 rfl ?_
      refine tt_gI (pc := 6) rw_78_6 fO_fr_M_1_8 fI_fr_M_1_1 ?_
      refine to_icf (pc := 9) rw_78_9 (cd_no (c := .le) (show ¬ x1.toInt ≤ (0 : Int32).toInt from (by have e1 : (0 : Int32).toInt = 0 := rfl; omega))) ?_
      refine to_c (pc := 12) rw_78_12 (x := (0 : Int32)) rfl rfl ?_
      refine to_r1 (pc := 13) rw_78_13 (by decide +kernel) ?_
      refine to_iff (pc := 8) rw_112_8 (by decide +kernel) ?_
      refine to_c (pc := 11) rw_112_11 (x := (-2 : Int32)) rfl rfl ?_
      refine to_r0 (pc := 13) rw_112_13 ?_
      refine to_an (pc := 284) rw_0_284 rfl ?_
      refine to_an (pc := 285) rw_0_285 rfl ?_
      refine to_i (pc := 286) rw_0_286 rfl ?_
      refine to_c (pc := 288) rw_0_288 (x := (1 : Int32)) rfl rfl ?_
      refine to_2 (pc := 289) rw_0_289 (v := (1 : Int32)) (by decide +kernel) ?_
      refine op_x (pc := 290) rw_0_290 (k := 1) (by decide +kernel) hx1 ?_
      refine to_v (pc := 291) rw_0_291 (hi := rfl) (ls0 := [.ref 77, .int _]) rfl (Nat.le_of_ble_eq_true rfl) (Nat.le_of_ble_eq_true rfl) rfl (to_rc rfl rfl rfl fO_fr_M_77_11) rfl ?_
      refine to_an (pc := 0) rw_219_0 rfl ?_
      refine to_c (pc := 1) rw_219_1 (x := (0 : Int32)) rfl rfl ?_
      refine tt_pI (pc := 2) rw_219_2 fO_fr_M_77_11 ?_
      refine to_an (pc := 5) rw_219_5 rfl ?_
      refine to_in (pc := 6) rw_219_6 rfl ?_
      refine to_v (pc := 7) rw_219_7 (hi := rfl) (ls0 := [.ref 77, .int _]) rfl (Nat.le_of_ble_eq_true rfl) (Nat.le_of_ble_eq_true rfl) rfl (to_rc rfl rfl rfl fO_fr_M_77_11) rfl ?_
      refine to_in (pc := 0) rw_163_0 rfl ?_
      refine to_iff (pc := 1) rw_163_1 (cd_no (c := .lt) (show ¬ x1.toInt < (0 : Int32).toInt from (by have e1 : (0 : Int32).toInt = 0 := rfl; omega))) ?_
      refine to_in (pc := 4) rw_163_4 rfl ?_
      refine to_an (pc := 5) rw_163_5 rfl ?_
      refine tt_gI (pc := 6) rw_163_6 fO_fr_M_77_11 (rI_n rfl fI_fr_M_77_1) ?_
      refine to_icf (pc := 9) rw_163_9 (cd_no (c := .le) (show ¬ x1.toInt ≤ (0 : Int32).toInt from (by have e1 : (0 : Int32).toInt = 0 := rfl; omega))) ?_
      refine to_c (pc := 12) rw_163_12 (x := (0 : Int32)) rfl rfl ?_
      refine to_r1 (pc := 13) rw_163_13 (by decide +kernel) ?_
      refine to_iff (pc := 10) rw_219_10 (by decide +kernel) ?_
      refine to_c (pc := 13) rw_219_13 (x := (-2 : Int32)) rfl rfl ?_
      refine to_r0 (pc := 15) rw_219_15 ?_
      refine to_ict (pc := 294) rw_0_294 (by decide +kernel) ?_
      exact op_tail (op_c fC_fr_M)
set_option maxHeartbeats 0 in
set_option maxRecDepth 4000 in
theorem op_3 {fr_M fr_1 fr_2 fr_3 fr_4 fr_5 fr_6 fr_7 fr_8 fr_9 fr_10 fr_11 fr_12 : mm_M} (HM : fr_Eq fr_M fr_1 fr_2 fr_3 fr_4 fr_5 fr_6 fr_7 fr_8 fr_9 fr_10 fr_11 fr_12) {xs : Nat → Int32} {x1 x2 x3 x4 x5 : Int32} (hx1 : xs 1 = x1) (hx2 : xs 2 = x2) (hx3 : xs 3 = x3) (hx4 : xs 4 = x4) (hx5 : xs 5 = x5) : mm_T (fr_X 6 xs) 40 0 299 [.ref mm_ext, .ref 0, .ref 77, .ref 125, .int 0, .null, .null] [] fr_M op_Q := by
  have z0 : (0 : Int32).toInt = 0 := rfl
  have fC_fr_6 := fC_fr_6 HM
  have fC_fr_M := fC_fr_M HM
  have fI_fr_M_1_1 := fI_fr_M_1_1 HM
  have fI_fr_M_77_1 := fI_fr_M_77_1 HM
  have fO_fr_5_77_11 := fO_fr_5_77_11 HM
  have fO_fr_M_0_10 := fO_fr_M_0_10 HM
  have fO_fr_M_1_8 := fO_fr_M_1_8 HM
  have fO_fr_M_77_11 := fO_fr_M_77_11 HM
  have fR_fr_M_0_0 := fR_fr_M_0_0 HM
  by_cases h0 : x1 = (0 : Int32)
  · subst h0
    refine to_an (pc := 299) rw_0_299 rfl ?_
    refine to_an (pc := 300) rw_0_300 rfl ?_
    refine to_i (pc := 301) rw_0_301 rfl ?_
    refine to_c (pc := 303) rw_0_303 (x := (1 : Int32)) rfl rfl ?_
    refine to_2 (pc := 304) rw_0_304 (v := (1 : Int32)) (by decide +kernel) ?_
    refine op_x (pc := 305) rw_0_305 (k := 1) (by decide +kernel) hx1 ?_
    refine to_v (pc := 306) rw_0_306 (hi := rfl) (ls0 := [.ref 0, .int (0 : Int32), .null]) rfl (Nat.le_of_ble_eq_true rfl) (Nat.le_of_ble_eq_true rfl) rfl (to_rc rfl rfl rfl fO_fr_M_0_10) rfl ?_
    refine (fr_5_T HM) ?_
    refine to_an (pc := 309) rw_0_309 rfl ?_
    refine to_an (pc := 310) rw_0_310 rfl ?_
    refine to_i (pc := 311) rw_0_311 rfl ?_
    refine to_c (pc := 313) rw_0_313 (x := (1 : Int32)) rfl rfl ?_
    refine to_2 (pc := 314) rw_0_314 (v := (1 : Int32)) (by decide +kernel) ?_
    refine op_x (pc := 315) rw_0_315 (k := 1) (by decide +kernel) hx1 ?_
    refine to_v (pc := 316) rw_0_316 (hi := rfl) (ls0 := [.ref 77, .int (0 : Int32), .null]) rfl (Nat.le_of_ble_eq_true rfl) (Nat.le_of_ble_eq_true rfl) rfl (to_rc rfl rfl rfl fO_fr_5_77_11) rfl ?_
    refine (fr_6_T HM) ?_
    refine to_ict (pc := 319) rw_0_319 (by decide +kernel) ?_
    exact op_tail (op_c fC_fr_6)
  · have h0 := cd_ne h0
    rcases Int.lt_or_le x1.toInt 0 with h00 | h00
    · refine to_an (pc := 299) rw_0_299 rfl ?_
      refine to_an (pc := 300) rw_0_300 rfl ?_
      refine to_i (pc := 301) rw_0_301 rfl ?_
      refine to_c (pc := 303) rw_0_303 (x := (1 : Int32)) rfl rfl ?_
      refine to_2 (pc := 304) rw_0_304 (v := (1 : Int32)) (by decide +kernel) ?_
      refine op_x (pc := 305) rw_0_305 (k := 1) (by decide +kernel) hx1 ?_
      refine to_v (pc := 306) rw_0_306 (hi := rfl) (ls0 := [.ref 0, .int _, .null]) rfl (Nat.le_of_ble_eq_true rfl) (Nat.le_of_ble_eq_true rfl) rfl (to_rc rfl rfl rfl fO_fr_M_0_10) rfl ?_
      refine to_an (pc := 0) rw_113_0 rfl ?_
      refine tt_gR (pc := 1) rw_113_1 fO_fr_M_0_10 fR_fr_M_0_0 ?_
      refine to_in (pc := 4) rw_113_4 rfl ?_
      refine to_v (pc := 5) rw_113_5 (hi := rfl) (ls0 := [.ref 1, .int _]) rfl (Nat.le_of_ble_eq_true rfl) (Nat.le_of_ble_eq_true rfl) rfl (to_rc rfl rfl rfl fO_fr_M_1_8) rfl ?_
      refine to_in (pc := 0) rw_78_0 rfl ?_
      refine to_ift (pc := 1) rw_78_1 (cd_of (c := .lt) (show x1.toInt < (0 : Int32).toInt from (by have e1 : (0 : Int32).toInt = 0 := rfl; omega))) ?_
      refine to_c (pc := 12) rw_78_12 (x := (0 : Int32)) rfl rfl ?_
      refine to_r1 (pc := 13) rw_78_13 (by decide +kernel) ?_
      refine to_iff (pc := 8) rw_113_8 (by decide +kernel) ?_
      refine to_c (pc := 11) rw_113_11 (x := (-2 : Int32)) rfl rfl ?_
      refine to_r0 (pc := 13) rw_113_13 ?_
      refine to_an (pc := 309) rw_0_309 rfl ?_
      refine to_an (pc := 310) rw_0_310 rfl ?_
      refine to_i (pc := 311) rw_0_311 rfl ?_
      refine to_c (pc := 313) rw_0_313 (x := (1 : Int32)) rfl rfl ?_
      refine to_2 (pc := 314) rw_0_314 (v := (1 : Int32)) (by decide +kernel) ?_
      refine op_x (pc := 315) rw_0_315 (k := 1) (by decide +kernel) hx1 ?_
      refine to_v (pc := 316) rw_0_316 (hi := rfl) (ls0 := [.ref 77, .int _, .null]) rfl (Nat.le_of_ble_eq_true rfl) (Nat.le_of_ble_eq_true rfl) rfl (to_rc rfl rfl rfl fO_fr_M_77_11) rfl ?_
      refine to_an (pc := 0) rw_227_0 rfl ?_
      refine to_c (pc := 1) rw_227_1 (x := (0 : Int32)) rfl rfl ?_
      refine tt_pI (pc := 2) rw_227_2 fO_fr_M_77_11 ?_
      refine to_an (pc := 5) rw_227_5 rfl ?_
      refine to_in (pc := 6) rw_227_6 rfl ?_
      refine to_v (pc := 7) rw_227_7 (hi := rfl) (ls0 := [.ref 77, .int _]) rfl (Nat.le_of_ble_eq_true rfl) (Nat.le_of_ble_eq_true rfl) rfl (to_rc rfl rfl rfl fO_fr_M_77_11) rfl ?_
      refine to_in (pc := 0) rw_163_0 rfl ?_
      refine to_ift (pc := 1) rw_163_1 (cd_of (c := .lt) (show x1.toInt < (0 : Int32).toInt from (by have e1 : (0 : Int32).toInt = 0 := rfl; omega))) ?_
      refine to_c (pc := 12) rw_163_12 (x := (0 : Int32)) rfl rfl ?_
      refine to_r1 (pc := 13) rw_163_13 (by decide +kernel) ?_
      refine to_iff (pc := 10) rw_227_10 (by decide +kernel) ?_
      refine to_c (pc := 13) rw_227_13 (x := (-2 : Int32)) rfl rfl ?_
      refine to_r0 (pc := 15) rw_227_15 ?_
      refine to_ict (pc := 319) rw_0_319 (by decide +kernel) ?_
      exact op_tail (op_c fC_fr_M)
    · refine to_an (pc := 299) rw_0_299 rfl ?_
      refine to_an (pc := 300) rw_0_300 rfl ?_
      refine to_i (pc := 301) rw_0_301 rfl ?_
      refine to_c (pc := 303) rw_0_303 (x := (1 : Int32)) rfl rfl ?_
      refine to_2 (pc := 304) rw_0_304 (v := (1 : Int32)) (by decide +kernel) ?_
      refine op_x (pc := 305) rw_0_305 (k := 1) (by decide +kernel) hx1 ?_
      refine to_v (pc := 306) rw_0_306 (hi := rfl) (ls0 := [.ref 0, .int _, .null]) rfl (Nat.le_of_ble_eq_true rfl) (Nat.le_of_ble_eq_true rfl) rfl (to_rc rfl rfl rfl fO_fr_M_0_10) rfl ?_
      refine to_an (pc := 0) rw_113_0 rfl ?_
      refine tt_gR (pc := 1) rw_113_1 fO_fr_M_0_10 fR_fr_M_0_0 ?_
      refine to_in (pc := 4) rw_113_4 rfl ?_
      refine to_v (pc := 5) rw_113_5 (hi := rfl) (ls0 := [.ref 1, .int _]) rfl (Nat.le_of_ble_eq_true rfl) (Nat.le_of_ble_eq_true rfl) rfl (to_rc rfl rfl rfl fO_fr_M_1_8) rfl ?_
      refine to_in (pc := 0) rw_78_0 rfl ?_
      refine to_iff (pc := 1) rw_78_1 (cd_no (c := .lt) (show ¬ x1.toInt < (0 : Int32).toInt from (by have e1 : (0 : Int32).toInt = 0 := rfl; omega))) ?_
      refine to_in (pc := 4) rw_78_4 rfl ?_
      refine to_an (pc := 5) rw_78_5 rfl ?_
      refine tt_gI (pc := 6) rw_78_6 fO_fr_M_1_8 fI_fr_M_1_1 ?_
      refine to_icf (pc := 9) rw_78_9 (cd_no (c := .le) (show ¬ x1.toInt ≤ (0 : Int32).toInt from (by have e1 : (0 : Int32).toInt = 0 := rfl; omega))) ?_
      refine to_c (pc := 12) rw_78_12 (x := (0 : Int32)) rfl rfl ?_
      refine to_r1 (pc := 13) rw_78_13 (by decide +kernel) ?_
      refine to_iff (pc := 8) rw_113_8 (by decide +kernel) ?_
      refine to_c (pc := 11) rw_113_11 (x := (-2 : Int32)) rfl rfl ?_
      refine to_r0 (pc := 13) rw_113_13 ?_
      refine to_an (pc := 309) rw_0_309 rfl ?_
      refine to_an (pc := 310) rw_0_310 rfl ?_
      refine to_i (pc := 311) rw_0_311 rfl ?_
      refine to_c (pc := 313) rw_0_313 (x := (1 : Int32)) rfl rfl ?_
      refine to_2 (pc := 314) rw_0_314 (v := (1 : Int32)) (by decide +kernel) ?_
      refine op_x (pc := 315) rw_0_315 (k := 1) (by decide +kernel) hx1 ?_
      refine to_v (pc := 316) rw_0_316 (hi := rfl) (ls0 := [.ref 77, .int _, .null]) rfl (Nat.le_of_ble_eq_true rfl) (Nat.le_of_ble_eq_true rfl) rfl (to_rc rfl rfl rfl fO_fr_M_77_11) rfl ?_
      refine to_an (pc := 0) rw_227_0 rfl ?_
      refine to_c (pc := 1) rw_227_1 (x := (0 : Int32)) rfl rfl ?_
      refine tt_pI (pc := 2) rw_227_2 fO_fr_M_77_11 ?_
      refine to_an (pc := 5) rw_227_5 rfl ?_
      refine to_in (pc := 6) rw_227_6 rfl ?_
      refine to_v (pc := 7) rw_227_7 (hi := rfl) (ls0 := [.ref 77, .int _]) rfl (Nat.le_of_ble_eq_true rfl) (Nat.le_of_ble_eq_true rfl) rfl (to_rc rfl rfl rfl fO_fr_M_77_11) rfl ?_
      refine to_in (pc := 0) rw_163_0 rfl ?_
      refine to_iff (pc := 1) rw_163_1 (cd_no (c := .lt) (show ¬ x1.toInt < (0 : Int32).toInt from (by have e1 : (0 : Int32).toInt = 0 := rfl; omega))) ?_
      refine to_in (pc := 4) rw_163_4 rfl ?_
      refine to_an (pc := 5) rw_163_5 rfl ?_
      refine tt_gI (pc := 6) rw_163_6 fO_fr_M_77_11 (rI_n rfl fI_fr_M_77_1) ?_
      refine to_icf (pc := 9) rw_163_9 (cd_no (c := .le) (show ¬ x1.toInt ≤ (0 : Int32).toInt from (by have e1 : (0 : Int32).toInt = 0 := rfl; omega))) ?_
      refine to_c (pc := 12) rw_163_12 (x := (0 : Int32)) rfl rfl ?_
      refine to_r1 (pc := 13) rw_163_13 (by decide +kernel) ?_
      refine to_iff (pc := 10) rw_227_10 (by decide +kernel) ?_
      refine to_c (pc := 13) rw_227_13 (x := (-2 : Int32)) rfl rfl ?_
      refine to_r0 (pc := 15) rw_227_15 ?_
      refine to_ict (pc := 319) rw_0_319 (by decide +kernel) ?_
      exact op_tail (op_c fC_fr_M)
set_option maxHeartbeats 0 in
set_option maxRecDepth 4000 in
theorem op_4 {fr_M fr_1 fr_2 fr_3 fr_4 fr_5 fr_6 fr_7 fr_8 fr_9 fr_10 fr_11 fr_12 : mm_M} (HM : fr_Eq fr_M fr_1 fr_2 fr_3 fr_4 fr_5 fr_6 fr_7 fr_8 fr_9 fr_10 fr_11 fr_12) {xs : Nat → Int32} {x1 x2 x3 x4 x5 : Int32} (hx1 : xs 1 = x1) (hx2 : xs 2 = x2) (hx3 : xs 3 = x3) (hx4 : xs 4 = x4) (hx5 : xs 5 = x5) : mm_T (fr_X 6 xs) 40 0 324 [.ref mm_ext, .ref 0, .ref 77, .ref 125, .int 0, .null, .null] [] fr_M op_Q := by
  have z0 : (0 : Int32).toInt = 0 := rfl
  have fC_fr_M := fC_fr_M HM
  have fI_fr_M_1_10 := fI_fr_M_1_10 HM
  have fI_fr_M_1_11 := fI_fr_M_1_11 HM
  have fI_fr_M_77_4 := fI_fr_M_77_4 HM
  have fI_fr_M_77_5 := fI_fr_M_77_5 HM
  have fO_fr_M_0_10 := fO_fr_M_0_10 HM
  have fO_fr_M_1_8 := fO_fr_M_1_8 HM
  have fO_fr_M_77_11 := fO_fr_M_77_11 HM
  have fR_fr_M_0_0 := fR_fr_M_0_0 HM
  refine to_an (pc := 324) rw_0_324 rfl ?_
  refine to_an (pc := 325) rw_0_325 rfl ?_
  refine to_i (pc := 326) rw_0_326 rfl ?_
  refine to_c (pc := 328) rw_0_328 (x := (1 : Int32)) rfl rfl ?_
  refine to_2 (pc := 329) rw_0_329 (v := (1 : Int32)) (by decide +kernel) ?_
  refine op_x (pc := 330) rw_0_330 (k := 1) (by decide +kernel) hx1 ?_
  refine to_v (pc := 331) rw_0_331 (hi := rfl) (ls0 := [.ref 0, .int _]) rfl (Nat.le_of_ble_eq_true rfl) (Nat.le_of_ble_eq_true rfl) rfl (to_rc rfl rfl rfl fO_fr_M_0_10) rfl ?_
  refine to_in (pc := 0) rw_114_0 rfl ?_
  by_cases h1 : x1 = (0 : Int32)
  · subst h1
    refine to_iff (pc := 1) rw_114_1 (by decide +kernel) ?_
    refine to_an (pc := 4) rw_114_4 rfl ?_
    refine tt_gR (pc := 5) rw_114_5 fO_fr_M_0_10 fR_fr_M_0_0 ?_
    refine tt_gI (pc := 8) rw_114_8 fO_fr_M_1_8 fI_fr_M_1_10 ?_
    refine to_r0 (pc := 11) rw_114_11 ?_
    refine to_an (pc := 334) rw_0_334 rfl ?_
    refine to_an (pc := 335) rw_0_335 rfl ?_
    refine to_i (pc := 336) rw_0_336 rfl ?_
    refine to_c (pc := 338) rw_0_338 (x := (1 : Int32)) rfl rfl ?_
    refine to_2 (pc := 339) rw_0_339 (v := (1 : Int32)) (by decide +kernel) ?_
    refine op_x (pc := 340) rw_0_340 (k := 1) (by decide +kernel) hx1 ?_
    refine to_v (pc := 341) rw_0_341 (hi := rfl) (ls0 := [.ref 77, .int (0 : Int32)]) rfl (Nat.le_of_ble_eq_true rfl) (Nat.le_of_ble_eq_true rfl) rfl (to_rc rfl rfl rfl fO_fr_M_77_11) rfl ?_
    refine to_an (pc := 0) rw_174_0 rfl ?_
    refine to_c (pc := 1) rw_174_1 (x := (0 : Int32)) rfl rfl ?_
    refine tt_pI (pc := 2) rw_174_2 fO_fr_M_77_11 ?_
    refine to_in (pc := 5) rw_174_5 rfl ?_
    refine to_iff (pc := 6) rw_174_6 (by decide +kernel) ?_
    refine to_an (pc := 9) rw_174_9 rfl ?_
    refine tt_gI (pc := 10) rw_174_10 fO_fr_M_77_11 (rI_n rfl fI_fr_M_77_4) ?_
    refine to_go (pc := 13) rw_174_13 ?_
    refine to_r0 (pc := 29) rw_174_29 ?_
    refine to_ict (pc := 344) rw_0_344 (by decide +kernel) ?_
    exact op_tail (op_c fC_fr_M)
  · have h1 := cd_ne h1
    refine to_ift (pc := 1) rw_114_1 (cd_of (c := .ne) (show x1.toInt ≠ (0 : Int32).toInt from (by have e1 : (0 : Int32).toInt = 0 := rfl; omega))) ?_
    refine to_in (pc := 12) rw_114_12 rfl ?_
    refine to_c (pc := 13) rw_114_13 (x := (1 : Int32)) rfl rfl ?_
    by_cases h2 : x1 = (1 : Int32)
    · subst h2
      refine to_icf (pc := 14) rw_114_14 (by decide +kernel) ?_
      refine to_an (pc := 17) rw_114_17 rfl ?_
      refine tt_gR (pc := 18) rw_114_18 fO_fr_M_0_10 fR_fr_M_0_0 ?_
      refine tt_gI (pc := 21) rw_114_21 fO_fr_M_1_8 fI_fr_M_1_11 ?_
      refine to_go (pc := 24) rw_114_24 ?_
      refine to_r0 (pc := 28) rw_114_28 ?_
      refine to_an (pc := 334) rw_0_334 rfl ?_
      refine to_an (pc := 335) rw_0_335 rfl ?_
      refine to_i (pc := 336) rw_0_336 rfl ?_
      refine to_c (pc := 338) rw_0_338 (x := (1 : Int32)) rfl rfl ?_
      refine to_2 (pc := 339) rw_0_339 (v := (1 : Int32)) (by decide +kernel) ?_
      refine op_x (pc := 340) rw_0_340 (k := 1) (by decide +kernel) hx1 ?_
      refine to_v (pc := 341) rw_0_341 (hi := rfl) (ls0 := [.ref 77, .int (1 : Int32)]) rfl (Nat.le_of_ble_eq_true rfl) (Nat.le_of_ble_eq_true rfl) rfl (to_rc rfl rfl rfl fO_fr_M_77_11) rfl ?_
      refine to_an (pc := 0) rw_174_0 rfl ?_
      refine to_c (pc := 1) rw_174_1 (x := (0 : Int32)) rfl rfl ?_
      refine tt_pI (pc := 2) rw_174_2 fO_fr_M_77_11 ?_
      refine to_in (pc := 5) rw_174_5 rfl ?_
      refine to_ift (pc := 6) rw_174_6 (by decide +kernel) ?_
      refine to_in (pc := 16) rw_174_16 rfl ?_
      refine to_c (pc := 17) rw_174_17 (x := (1 : Int32)) rfl rfl ?_
      refine to_icf (pc := 18) rw_174_18 (by decide +kernel) ?_
      refine to_an (pc := 21) rw_174_21 rfl ?_
      refine tt_gI (pc := 22) rw_174_22 fO_fr_M_77_11 (rI_n rfl fI_fr_M_77_5) ?_
      refine to_go (pc := 25) rw_174_25 ?_
      refine to_r0 (pc := 29) rw_174_29 ?_
      refine to_ict (pc := 344) rw_0_344 (by decide +kernel) ?_
      exact op_tail (op_c fC_fr_M)
    · have h2 := cd_ne h2
      refine to_ict (pc := 14) rw_114_14 (cd_of (c := .ne) (show x1.toInt ≠ (1 : Int32).toInt from (by have e1 : (1 : Int32).toInt = 1 := rfl; omega))) ?_
      refine to_c (pc := 27) rw_114_27 (x := (-1 : Int32)) rfl rfl ?_
      refine to_r0 (pc := 28) rw_114_28 ?_
      refine to_an (pc := 334) rw_0_334 rfl ?_
      refine to_an (pc := 335) rw_0_335 rfl ?_
      refine to_i (pc := 336) rw_0_336 rfl ?_
      refine to_c (pc := 338) rw_0_338 (x := (1 : Int32)) rfl rfl ?_
      refine to_2 (pc := 339) rw_0_339 (v := (1 : Int32)) (by decide +kernel) ?_
      refine op_x (pc := 340) rw_0_340 (k := 1) (by decide +kernel) hx1 ?_
      refine to_v (pc := 341) rw_0_341 (hi := rfl) (ls0 := [.ref 77, .int _]) rfl (Nat.le_of_ble_eq_true rfl) (Nat.le_of_ble_eq_true rfl) rfl (to_rc rfl rfl rfl fO_fr_M_77_11) rfl ?_
      refine to_an (pc := 0) rw_174_0 rfl ?_
      refine to_c (pc := 1) rw_174_1 (x := (0 : Int32)) rfl rfl ?_
      refine tt_pI (pc := 2) rw_174_2 fO_fr_M_77_11 ?_
      refine to_in (pc := 5) rw_174_5 rfl ?_
      refine to_ift (pc := 6) rw_174_6 (cd_of (c := .ne) (show x1.toInt ≠ (0 : Int32).toInt from (by have e1 : (0 : Int32).toInt = 0 := rfl; omega))) ?_
      refine to_in (pc := 16) rw_174_16 rfl ?_
      refine to_c (pc := 17) rw_174_17 (x := (1 : Int32)) rfl rfl ?_
      refine to_ict (pc := 18) rw_174_18 (cd_of (c := .ne) (show x1.toInt ≠ (1 : Int32).toInt from (by have e1 : (1 : Int32).toInt = 1 := rfl; omega))) ?_
      refine to_c (pc := 28) rw_174_28 (x := (-1 : Int32)) rfl rfl ?_
      refine to_r0 (pc := 29) rw_174_29 ?_
      refine to_ict (pc := 344) rw_0_344 (by decide +kernel) ?_
      exact op_tail (op_c fC_fr_M)
set_option maxHeartbeats 0 in
set_option maxRecDepth 4000 in
theorem op_5 {fr_M fr_1 fr_2 fr_3 fr_4 fr_5 fr_6 fr_7 fr_8 fr_9 fr_10 fr_11 fr_12 : mm_M} (HM : fr_Eq fr_M fr_1 fr_2 fr_3 fr_4 fr_5 fr_6 fr_7 fr_8 fr_9 fr_10 fr_11 fr_12) {xs : Nat → Int32} {x1 x2 x3 x4 x5 : Int32} (hx1 : xs 1 = x1) (hx2 : xs 2 = x2) (hx3 : xs 3 = x3) (hx4 : xs 4 = x4) (hx5 : xs 5 = x5) : mm_T (fr_X 6 xs) 40 0 349 [.ref mm_ext, .ref 0, .ref 77, .ref 125, .int 0, .null, .null] [] fr_M op_Q := by
  have z0 : (0 : Int32).toInt = 0 := rfl
  have fC_fr_M := fC_fr_M HM
  have fI_fr_M_49_2 := fI_fr_M_49_2 HM
  have fI_fr_M_49_3 := fI_fr_M_49_3 HM
  have fI_fr_M_77_12 := fI_fr_M_77_12 HM
  have fI_fr_M_77_13 := fI_fr_M_77_13 HM
  have fO_fr_M_0_10 := fO_fr_M_0_10 HM
  have fO_fr_M_49_5 := fO_fr_M_49_5 HM
  have fO_fr_M_77_11 := fO_fr_M_77_11 HM
  have fR_fr_M_0_8 := fR_fr_M_0_8 HM
  have fR_fr_M_49_10 := fR_fr_M_49_10 HM
  have fR_fr_M_49_5 := fR_fr_M_49_5 HM
  refine to_an (pc := 349) rw_0_349 rfl ?_
  refine to_an (pc := 350) rw_0_350 rfl ?_
  refine to_i (pc := 351) rw_0_351 rfl ?_
  refine to_c (pc := 353) rw_0_353 (x := (1 : Int32)) rfl rfl ?_
  refine to_2 (pc := 354) rw_0_354 (v := (1 : Int32)) (by decide +kernel) ?_
  refine op_x (pc := 355) rw_0_355 (k := 1) (by decide +kernel) hx1 ?_
  refine to_an (pc := 356) rw_0_356 rfl ?_
  refine to_i (pc := 357) rw_0_357 rfl ?_
  refine to_c (pc := 359) rw_0_359 (x := (2 : Int32)) rfl rfl ?_
  refine to_2 (pc := 360) rw_0_360 (v := (2 : Int32)) (by decide +kernel) ?_
  refine op_x (pc := 361) rw_0_361 (k := 2) (by decide +kernel) hx2 ?_
  refine to_v (pc := 362) rw_0_362 (hi := rfl) (ls0 := [.ref 0, .int _, .int _]) rfl (Nat.le_of_ble_eq_true rfl) (Nat.le_of_ble_eq_true rfl) rfl (to_rc rfl rfl rfl fO_fr_M_0_10) rfl ?_
  refine to_in (pc := 0) rw_115_0 rfl ?_
  by_cases h1 : x1 = (0 : Int32)
  · subst h1
    refine to_iff (pc := 1) rw_115_1 (by decide +kernel) ?_
    refine to_an (pc := 4) rw_115_4 rfl ?_
    refine tt_gR (pc := 5) rw_115_5 fO_fr_M_0_10 fR_fr_M_0_8 ?_
    refine to_in (pc := 8) rw_115_8 rfl ?_
    refine to_v (pc := 9) rw_115_9 (hi := rfl) (ls0 := [.ref 49, .int _]) rfl (Nat.le_of_ble_eq_true rfl) (Nat.le_of_ble_eq_true rfl) rfl (to_rc rfl rfl rfl fO_fr_M_49_5) rfl ?_
    refine to_an (pc := 0) rw_52_0 rfl ?_
    refine tt_gR (pc := 1) rw_52_1 fO_fr_M_49_5 fR_fr_M_49_5 ?_
    refine to_an (pc := 4) rw_52_4 rfl ?_
    refine tt_gI (pc := 5) rw_52_5 fO_fr_M_49_5 fI_fr_M_49_2 ?_
    refine to_in (pc := 8) rw_52_8 rfl ?_
    refine to_s (pc := 9) rw_52_9 (ls0 := [.ref 50, .int (0 : Int32), .int _, .null]) rfl (Nat.le_of_ble_eq_true rfl) (Nat.le_of_ble_eq_true rfl) rfl (to_rcs rfl rfl) rfl ?_
    refine to_c (pc := 0) rw_54_0 (x := (0 : Int32)) rfl rfl ?_
    refine to_isn (pc := 1) rw_54_1 (ls2 := [.ref 50, .int (0 : Int32), .int _, .int (0 : Int32)]) rfl rfl ?_
    refine to_in (pc := 2) rw_54_2 rfl ?_
    refine to_in (pc := 3) rw_54_3 rfl ?_
    refine to_ict (pc := 4) rw_54_4 (by decide +kernel) ?_
    refine to_c (pc := 28) rw_54_28 (x := (-1 : Int32)) rfl rfl ?_
    refine to_r0 (pc := 29) rw_54_29 ?_
    refine to_r0 (pc := 12) rw_52_12 ?_
    refine to_r0 (pc := 12) rw_115_12 ?_
    refine to_an (pc := 365) rw_0_365 rfl ?_
    refine to_an (pc := 366) rw_0_366 rfl ?_
    refine to_i (pc := 367) rw_0_367 rfl ?_
    refine to_c (pc := 369) rw_0_369 (x := (1 : Int32)) rfl rfl ?_
    refine to_2 (pc := 370) rw_0_370 (v := (1 : Int32)) (by decide +kernel) ?_
    refine op_x (pc := 371) rw_0_371 (k := 1) (by decide +kernel) hx1 ?_
    refine to_an (pc := 372) rw_0_372 rfl ?_
    refine to_i (pc := 373) rw_0_373 rfl ?_
    refine to_c (pc := 375) rw_0_375 (x := (2 : Int32)) rfl rfl ?_
    refine to_2 (pc := 376) rw_0_376 (v := (2 : Int32)) (by decide +kernel) ?_
    refine op_x (pc := 377) rw_0_377 (k := 2) (by decide +kernel) hx2 ?_
    refine to_v (pc := 378) rw_0_378 (hi := rfl) (ls0 := [.ref 77, .int (0 : Int32), .int _]) rfl (Nat.le_of_ble_eq_true rfl) (Nat.le_of_ble_eq_true rfl) rfl (to_rc rfl rfl rfl fO_fr_M_77_11) rfl ?_
    refine to_an (pc := 0) rw_177_0 rfl ?_
    refine to_c (pc := 1) rw_177_1 (x := (0 : Int32)) rfl rfl ?_
    refine tt_pI (pc := 2) rw_177_2 fO_fr_M_77_11 ?_
    refine to_in (pc := 5) rw_177_5 rfl ?_
    refine to_iff (pc := 6) rw_177_6 (by decide +kernel) ?_
    refine to_an (pc := 9) rw_177_9 rfl ?_
    refine to_in (pc := 10) rw_177_10 rfl ?_
    refine to_v (pc := 11) rw_177_11 (hi := rfl) (ls0 := [.ref 77, .int _, .null]) rfl (Nat.le_of_ble_eq_true rfl) (Nat.le_of_ble_eq_true rfl) rfl (to_rc rfl rfl rfl fO_fr_M_77_11) rfl ?_
    refine to_c (pc := 0) rw_175_0 (x := (0 : Int32)) rfl rfl ?_
    refine to_isn (pc := 1) rw_175_1 (ls2 := [.ref 77, .int _, .int (0 : Int32)]) rfl rfl ?_
    refine to_in (pc := 2) rw_175_2 rfl ?_
    refine to_an (pc := 3) rw_175_3 rfl ?_
    refine tt_gI (pc := 4) rw_175_4 fO_fr_M_77_11 (rI_n rfl fI_fr_M_77_12) ?_
    refine to_ict (pc := 7) rw_175_7 (by decide +kernel) ?_
    refine to_c (pc := 28) rw_175_28 (x := (-1 : Int32)) rfl rfl ?_
    refine to_r0 (pc := 29) rw_175_29 ?_
    refine to_go (pc := 14) rw_177_14 ?_
    refine to_r0 (pc := 31) rw_177_31 ?_
    refine to_ict (pc := 381) rw_0_381 (by decide +kernel) ?_
    exact op_tail (op_c fC_fr_M)
  · have h1 := cd_ne h1
    refine to_ift (pc := 1) rw_115_1 (cd_of (c := .ne) (show x1.toInt ≠ (0 : Int32).toInt from (by have e1 : (0 : Int32).toInt = 0 := rfl; omega))) ?_
    refine to_in (pc := 13) rw_115_13 rfl ?_
    refine to_c (pc := 14) rw_115_14 (x := (1 : Int32)) rfl rfl ?_
    by_cases h2 : x1 = (1 : Int32)
    · subst h2
      refine to_icf (pc := 15) rw_115_15 (by decide +kernel) ?_
      refine to_an (pc := 18) rw_115_18 rfl ?_
      refine tt_gR (pc := 19) rw_115_19 fO_fr_M_0_10 fR_fr_M_0_8 ?_
      refine to_in (pc := 22) rw_115_22 rfl ?_
      refine to_v (pc := 23) rw_115_23 (hi := rfl) (ls0 := [.ref 49, .int _]) rfl (Nat.le_of_ble_eq_true rfl) (Nat.le_of_ble_eq_true rfl) rfl (to_rc rfl rfl rfl fO_fr_M_49_5) rfl ?_
      refine to_an (pc := 0) rw_53_0 rfl ?_
      refine tt_gR (pc := 1) rw_53_1 fO_fr_M_49_5 fR_fr_M_49_10 ?_
      refine to_an (pc := 4) rw_53_4 rfl ?_
      refine tt_gI (pc := 5) rw_53_5 fO_fr_M_49_5 fI_fr_M_49_3 ?_
      refine to_in (pc := 8) rw_53_8 rfl ?_
      refine to_s (pc := 9) rw_53_9 (ls0 := [.ref 55, .int (0 : Int32), .int _, .null]) rfl (Nat.le_of_ble_eq_true rfl) (Nat.le_of_ble_eq_true rfl) rfl (to_rcs rfl rfl) rfl ?_
      refine to_c (pc := 0) rw_54_0 (x := (0 : Int32)) rfl rfl ?_
      refine to_isn (pc := 1) rw_54_1 (ls2 := [.ref 55, .int (0 : Int32), .int _, .int (0 : Int32)]) rfl rfl ?_
      refine to_in (pc := 2) rw_54_2 rfl ?_
      refine to_in (pc := 3) rw_54_3 rfl ?_
      refine to_ict (pc := 4) rw_54_4 (by decide +kernel) ?_
      refine to_c (pc := 28) rw_54_28 (x := (-1 : Int32)) rfl rfl ?_
      refine to_r0 (pc := 29) rw_54_29 ?_
      refine to_r0 (pc := 12) rw_53_12 ?_
      refine to_go (pc := 26) rw_115_26 ?_
      refine to_r0 (pc := 30) rw_115_30 ?_
      refine to_an (pc := 365) rw_0_365 rfl ?_
      refine to_an (pc := 366) rw_0_366 rfl ?_
      refine to_i (pc := 367) rw_0_367 rfl ?_
      refine to_c (pc := 369) rw_0_369 (x := (1 : Int32)) rfl rfl ?_
      refine to_2 (pc := 370) rw_0_370 (v := (1 : Int32)) (by decide +kernel) ?_
      refine op_x (pc := 371) rw_0_371 (k := 1) (by decide +kernel) hx1 ?_
      refine to_an (pc := 372) rw_0_372 rfl ?_
      refine to_i (pc := 373) rw_0_373 rfl ?_
      refine to_c (pc := 375) rw_0_375 (x := (2 : Int32)) rfl rfl ?_
      refine to_2 (pc := 376) rw_0_376 (v := (2 : Int32)) (by decide +kernel) ?_
      refine op_x (pc := 377) rw_0_377 (k := 2) (by decide +kernel) hx2 ?_
      refine to_v (pc := 378) rw_0_378 (hi := rfl) (ls0 := [.ref 77, .int (1 : Int32), .int _]) rfl (Nat.le_of_ble_eq_true rfl) (Nat.le_of_ble_eq_true rfl) rfl (to_rc rfl rfl rfl fO_fr_M_77_11) rfl ?_
      refine to_an (pc := 0) rw_177_0 rfl ?_
      refine to_c (pc := 1) rw_177_1 (x := (0 : Int32)) rfl rfl ?_
      refine tt_pI (pc := 2) rw_177_2 fO_fr_M_77_11 ?_
      refine to_in (pc := 5) rw_177_5 rfl ?_
      refine to_ift (pc := 6) rw_177_6 (by decide +kernel) ?_
      refine to_in (pc := 17) rw_177_17 rfl ?_
      refine to_c (pc := 18) rw_177_18 (x := (1 : Int32)) rfl rfl ?_
      refine to_icf (pc := 19) rw_177_19 (by decide +kernel) ?_
      refine to_an (pc := 22) rw_177_22 rfl ?_
      refine to_in (pc := 23) rw_177_23 rfl ?_
      refine to_v (pc := 24) rw_177_24 (hi := rfl) (ls0 := [.ref 77, .int _, .null]) rfl (Nat.le_of_ble_eq_true rfl) (Nat.le_of_ble_eq_true rfl) rfl (to_rc rfl rfl rfl fO_fr_M_77_11) rfl ?_
      refine to_c (pc := 0) rw_176_0 (x := (0 : Int32)) rfl rfl ?_
      refine to_isn (pc := 1) rw_176_1 (ls2 := [.ref 77, .int _, .int (0 : Int32)]) rfl rfl ?_
      refine to_in (pc := 2) rw_176_2 rfl ?_
      refine to_an (pc := 3) rw_176_3 rfl ?_
      refine tt_gI (pc := 4) rw_176_4 fO_fr_M_77_11 (rI_n rfl fI_fr_M_77_13) ?_
      refine to_ict (pc := 7) rw_176_7 (by decide +kernel) ?_
      refine to_c (pc := 28) rw_176_28 (x := (-1 : Int32)) rfl rfl ?_
      refine to_r0 (pc := 29) rw_176_29 ?_
      refine to_go (pc := 27) rw_177_27 ?_
      refine to_r0 (pc := 31) rw_177_31 ?_
      refine to_ict (pc := 381) rw_0_381 (by decide +kernel) ?_
      exact op_tail (op_c fC_fr_M)
    · have h2 := cd_ne h2
      refine to_ict (pc := 15) rw_115_15 (cd_of (c := .ne) (show x1.toInt ≠ (1 : Int32).toInt from (by have e1 : (1 : Int32).toInt = 1 := rfl; omega))) ?_
      refine to_c (pc := 29) rw_115_29 (x := (-1 : Int32)) rfl rfl ?_
      refine to_r0 (pc := 30) rw_115_30 ?_
      refine to_an (pc := 365) rw_0_365 rfl ?_
      refine to_an (pc := 366) rw_0_366 rfl ?_
      refine to_i (pc := 367) rw_0_367 rfl ?_
      refine to_c (pc := 369) rw_0_369 (x := (1 : Int32)) rfl rfl ?_
      refine to_2 (pc := 370) rw_0_370 (v := (1 : Int32)) (by decide +kernel) ?_
      refine op_x (pc := 371) rw_0_371 (k := 1) (by decide +kernel) hx1 ?_
      refine to_an (pc := 372) rw_0_372 rfl ?_
      refine to_i (pc := 373) rw_0_373 rfl ?_
      refine to_c (pc := 375) rw_0_375 (x := (2 : Int32)) rfl rfl ?_
      refine to_2 (pc := 376) rw_0_376 (v := (2 : Int32)) (by decide +kernel) ?_
      refine op_x (pc := 377) rw_0_377 (k := 2) (by decide +kernel) hx2 ?_
      refine to_v (pc := 378) rw_0_378 (hi := rfl) (ls0 := [.ref 77, .int _, .int _]) rfl (Nat.le_of_ble_eq_true rfl) (Nat.le_of_ble_eq_true rfl) rfl (to_rc rfl rfl rfl fO_fr_M_77_11) rfl ?_
      refine to_an (pc := 0) rw_177_0 rfl ?_
      refine to_c (pc := 1) rw_177_1 (x := (0 : Int32)) rfl rfl ?_
      refine tt_pI (pc := 2) rw_177_2 fO_fr_M_77_11 ?_
      refine to_in (pc := 5) rw_177_5 rfl ?_
      refine to_ift (pc := 6) rw_177_6 (cd_of (c := .ne) (show x1.toInt ≠ (0 : Int32).toInt from (by have e1 : (0 : Int32).toInt = 0 := rfl; omega))) ?_
      refine to_in (pc := 17) rw_177_17 rfl ?_
      refine to_c (pc := 18) rw_177_18 (x := (1 : Int32)) rfl rfl ?_
      refine to_ict (pc := 19) rw_177_19 (cd_of (c := .ne) (show x1.toInt ≠ (1 : Int32).toInt from (by have e1 : (1 : Int32).toInt = 1 := rfl; omega))) ?_
      refine to_c (pc := 30) rw_177_30 (x := (-1 : Int32)) rfl rfl ?_
      refine to_r0 (pc := 31) rw_177_31 ?_
      refine to_ict (pc := 381) rw_0_381 (by decide +kernel) ?_
      exact op_tail (op_c fC_fr_M)
set_option maxHeartbeats 0 in
set_option maxRecDepth 4000 in
theorem op_6 {fr_M fr_1 fr_2 fr_3 fr_4 fr_5 fr_6 fr_7 fr_8 fr_9 fr_10 fr_11 fr_12 : mm_M} (HM : fr_Eq fr_M fr_1 fr_2 fr_3 fr_4 fr_5 fr_6 fr_7 fr_8 fr_9 fr_10 fr_11 fr_12) {xs : Nat → Int32} {x1 x2 x3 x4 x5 : Int32} (hx1 : xs 1 = x1) (hx2 : xs 2 = x2) (hx3 : xs 3 = x3) (hx4 : xs 4 = x4) (hx5 : xs 5 = x5) : mm_T (fr_X 6 xs) 40 0 386 [.ref mm_ext, .ref 0, .ref 77, .ref 125, .int 0, .null, .null] [] fr_M op_Q := by
  have z0 : (0 : Int32).toInt = 0 := rfl
  have fC_fr_M := fC_fr_M HM
  have fI_fr_M_49_2 := fI_fr_M_49_2 HM
  have fI_fr_M_77_12 := fI_fr_M_77_12 HM
  have fN_fr_M_125_0 := fN_fr_M_125_0 HM
  have fO_fr_M_0_10 := fO_fr_M_0_10 HM
  have fO_fr_M_125_101 := fO_fr_M_125_101 HM
  have fO_fr_M_49_5 := fO_fr_M_49_5 HM
  have fO_fr_M_77_11 := fO_fr_M_77_11 HM
  have fR_fr_M_0_8 := fR_fr_M_0_8 HM
  refine to_an (pc := 386) rw_0_386 rfl ?_
  refine to_an (pc := 387) rw_0_387 rfl ?_
  refine to_i (pc := 388) rw_0_388 rfl ?_
  refine to_c (pc := 390) rw_0_390 (x := (1 : Int32)) rfl rfl ?_
  refine to_2 (pc := 391) rw_0_391 (v := (1 : Int32)) (by decide +kernel) ?_
  refine op_x (pc := 392) rw_0_392 (k := 1) (by decide +kernel) hx1 ?_
  refine to_an (pc := 393) rw_0_393 rfl ?_
  refine to_i (pc := 394) rw_0_394 rfl ?_
  refine to_c (pc := 396) rw_0_396 (x := (2 : Int32)) rfl rfl ?_
  refine to_2 (pc := 397) rw_0_397 (v := (2 : Int32)) (by decide +kernel) ?_
  refine op_x (pc := 398) rw_0_398 (k := 2) (by decide +kernel) hx2 ?_
  refine to_an (pc := 399) rw_0_399 rfl ?_
  refine to_look (pc := 400) rw_0_400 rfl (op_look fO_fr_M_0_10 fO_fr_M_125_101 fN_fr_M_125_0 fR_fr_M_0_8 fO_fr_M_49_5 (op_lk fI_fr_M_49_2)) ?_
  refine to_is (pc := 403) rw_0_403 (ls2 := [.ref mm_ext, .ref 0, .ref 77, .ref 125, .int (0 : Int32), .int (1 : Int32), .null]) rfl rfl ?_
  refine to_an (pc := 405) rw_0_405 rfl ?_
  refine to_an (pc := 406) rw_0_406 rfl ?_
  refine to_i (pc := 407) rw_0_407 rfl ?_
  refine to_c (pc := 409) rw_0_409 (x := (1 : Int32)) rfl rfl ?_
  refine to_2 (pc := 410) rw_0_410 (v := (1 : Int32)) (by decide +kernel) ?_
  refine op_x (pc := 411) rw_0_411 (k := 1) (by decide +kernel) hx1 ?_
  refine to_an (pc := 412) rw_0_412 rfl ?_
  refine to_i (pc := 413) rw_0_413 rfl ?_
  refine to_c (pc := 415) rw_0_415 (x := (2 : Int32)) rfl rfl ?_
  refine to_2 (pc := 416) rw_0_416 (v := (2 : Int32)) (by decide +kernel) ?_
  refine op_x (pc := 417) rw_0_417 (k := 2) (by decide +kernel) hx2 ?_
  refine to_v (pc := 418) rw_0_418 (hi := rfl) (ls0 := [.ref 77, .int _, .int _]) rfl (Nat.le_of_ble_eq_true rfl) (Nat.le_of_ble_eq_true rfl) rfl (to_rc rfl rfl rfl fO_fr_M_77_11) rfl ?_
  refine to_an (pc := 0) rw_182_0 rfl ?_
  refine to_c (pc := 1) rw_182_1 (x := (0 : Int32)) rfl rfl ?_
  refine tt_pI (pc := 2) rw_182_2 fO_fr_M_77_11 ?_
  refine to_an (pc := 5) rw_182_5 rfl ?_
  refine to_in (pc := 6) rw_182_6 rfl ?_
  refine to_v (pc := 7) rw_182_7 (hi := rfl) (ls0 := [.ref 77, .int _]) rfl (Nat.le_of_ble_eq_true rfl) (Nat.le_of_ble_eq_true rfl) rfl (to_rc rfl rfl rfl fO_fr_M_77_11) rfl ?_
  refine to_in (pc := 0) rw_178_0 rfl ?_
  rcases Int.lt_or_le x1.toInt (0) with h1 | h1
  · refine to_ift (pc := 1) rw_178_1 (cd_of (c := .lt) (show x1.toInt < (0 : Int32).toInt from (by have e1 : (0 : Int32).toInt = 0 := rfl; omega))) ?_
    refine to_c (pc := 16) rw_178_16 (x := (0 : Int32)) rfl rfl ?_
    refine to_r1 (pc := 17) rw_178_17 (by decide +kernel) ?_
    refine to_iff (pc := 10) rw_182_10 (by decide +kernel) ?_
    refine to_an (pc := 13) rw_182_13 rfl ?_
    refine to_c (pc := 14) rw_182_14 (x := (1 : Int32)) rfl rfl ?_
    refine to_v (pc := 15) rw_182_15 (hi := rfl) (ls0 := [.ref 77, .int (1 : Int32)]) rfl (Nat.le_of_ble_eq_true rfl) (Nat.le_of_ble_eq_true rfl) rfl (to_rc rfl rfl rfl fO_fr_M_77_11) rfl ?_
    refine to_an (pc := 0) rw_181_0 rfl ?_
    refine to_in (pc := 1) rw_181_1 rfl ?_
    refine tt_pI (pc := 2) rw_181_2 fO_fr_M_77_11 ?_
    refine to_c (pc := 5) rw_181_5 (x := (0 : Int32)) rfl rfl ?_
    refine to_r0 (pc := 6) rw_181_6 ?_
    refine to_r0 (pc := 18) rw_182_18 ?_
    refine to_is (pc := 421) rw_0_421 (ls2 := [.ref mm_ext, .ref 0, .ref 77, .ref 125, .int (0 : Int32), .int (1 : Int32), .int (0 : Int32)]) rfl rfl ?_
    refine to_an (pc := 423) rw_0_423 rfl ?_
    refine to_v (pc := 424) rw_0_424 (hi := rfl) (ls0 := [.ref 77]) rfl (Nat.le_of_ble_eq_true rfl) (Nat.le_of_ble_eq_true rfl) rfl (to_rc rfl rfl rfl fO_fr_M_77_11) rfl ?_
    refine to_an (pc := 0) rw_147_0 rfl ?_
    refine tt_gI (pc := 1) rw_147_1 fO_fr_M_77_11 rI_e ?_
    refine to_r0 (pc := 4) rw_147_4 ?_
    refine to_i (pc := 427) rw_0_427 rfl ?_
    refine to_ict (pc := 429) rw_0_429 (by decide +kernel) ?_
    refine to_i (pc := 434) rw_0_434 rfl ?_
    refine to_ift (pc := 436) rw_0_436 (by decide +kernel) ?_
    refine to_go (pc := 451) rw_0_451 ?_
    exact op_tail (op_cm fC_fr_M)
  · refine to_iff (pc := 1) rw_178_1 (cd_no (c := .lt) (show ¬ x1.toInt < (0 : Int32).toInt from (by have e1 : (0 : Int32).toInt = 0 := rfl; omega))) ?_
    refine to_in (pc := 4) rw_178_4 rfl ?_
    refine to_an (pc := 5) rw_178_5 rfl ?_
    refine tt_gI (pc := 6) rw_178_6 fO_fr_M_77_11 (rI_n rfl fI_fr_M_77_12) ?_
    refine to_ict (pc := 9) rw_178_9 (cd_of (c := .ge) (show x1.toInt ≥ (0 : Int32).toInt from (by have e1 : (0 : Int32).toInt = 0 := rfl; omega))) ?_
    refine to_c (pc := 16) rw_178_16 (x := (0 : Int32)) rfl rfl ?_
    refine to_r1 (pc := 17) rw_178_17 (by decide +kernel) ?_
    refine to_iff (pc := 10) rw_182_10 (by decide +kernel) ?_
    refine to_an (pc := 13) rw_182_13 rfl ?_
    refine to_c (pc := 14) rw_182_14 (x := (1 : Int32)) rfl rfl ?_
    refine to_v (pc := 15) rw_182_15 (hi := rfl) (ls0 := [.ref 77, .int (1 : Int32)]) rfl (Nat.le_of_ble_eq_true rfl) (Nat.le_of_ble_eq_true rfl) rfl (to_rc rfl rfl rfl fO_fr_M_77_11) rfl ?_
    refine to_an (pc := 0) rw_181_0 rfl ?_
    refine to_in (pc := 1) rw_181_1 rfl ?_
    refine tt_pI (pc := 2) rw_181_2 fO_fr_M_77_11 ?_
    refine to_c (pc := 5) rw_181_5 (x := (0 : Int32)) rfl rfl ?_
    refine to_r0 (pc := 6) rw_181_6 ?_
    refine to_r0 (pc := 18) rw_182_18 ?_
    refine to_is (pc := 421) rw_0_421 (ls2 := [.ref mm_ext, .ref 0, .ref 77, .ref 125, .int (0 : Int32), .int (1 : Int32), .int (0 : Int32)]) rfl rfl ?_
    refine to_an (pc := 423) rw_0_423 rfl ?_
    refine to_v (pc := 424) rw_0_424 (hi := rfl) (ls0 := [.ref 77]) rfl (Nat.le_of_ble_eq_true rfl) (Nat.le_of_ble_eq_true rfl) rfl (to_rc rfl rfl rfl fO_fr_M_77_11) rfl ?_
    refine to_an (pc := 0) rw_147_0 rfl ?_
    refine tt_gI (pc := 1) rw_147_1 fO_fr_M_77_11 rI_e ?_
    refine to_r0 (pc := 4) rw_147_4 ?_
    refine to_i (pc := 427) rw_0_427 rfl ?_
    refine to_ict (pc := 429) rw_0_429 (by decide +kernel) ?_
    refine to_i (pc := 434) rw_0_434 rfl ?_
    refine to_ift (pc := 436) rw_0_436 (by decide +kernel) ?_
    refine to_go (pc := 451) rw_0_451 ?_
    exact op_tail (op_cm fC_fr_M)
set_option maxHeartbeats 0 in
set_option maxRecDepth 4000 in
theorem op_7 {fr_M fr_1 fr_2 fr_3 fr_4 fr_5 fr_6 fr_7 fr_8 fr_9 fr_10 fr_11 fr_12 : mm_M} (HM : fr_Eq fr_M fr_1 fr_2 fr_3 fr_4 fr_5 fr_6 fr_7 fr_8 fr_9 fr_10 fr_11 fr_12) {xs : Nat → Int32} {x1 x2 x3 x4 x5 : Int32} (hx1 : xs 1 = x1) (hx2 : xs 2 = x2) (hx3 : xs 3 = x3) (hx4 : xs 4 = x4) (hx5 : xs 5 = x5) : mm_T (fr_X 6 xs) 40 0 454 [.ref mm_ext, .ref 0, .ref 77, .ref 125, .int 0, .null, .null] [] fr_M op_Q := by
  have z0 : (0 : Int32).toInt = 0 := rfl
  have fC_fr_M := fC_fr_M HM
  have fI_fr_M_49_2 := fI_fr_M_49_2 HM
  have fI_fr_M_77_12 := fI_fr_M_77_12 HM
  have fO_fr_M_0_10 := fO_fr_M_0_10 HM
  have fO_fr_M_49_5 := fO_fr_M_49_5 HM
  have fO_fr_M_77_11 := fO_fr_M_77_11 HM
  have fR_fr_M_0_8 := fR_fr_M_0_8 HM
  refine to_an (pc := 454) rw_0_454 rfl ?_
  refine to_an (pc := 455) rw_0_455 rfl ?_
  refine to_i (pc := 456) rw_0_456 rfl ?_
  refine to_c (pc := 458) rw_0_458 (x := (1 : Int32)) rfl rfl ?_
  refine to_2 (pc := 459) rw_0_459 (v := (1 : Int32)) (by decide +kernel) ?_
  refine op_x (pc := 460) rw_0_460 (k := 1) (by decide +kernel) hx1 ?_
  refine to_an (pc := 461) rw_0_461 rfl ?_
  refine to_i (pc := 462) rw_0_462 rfl ?_
  refine to_c (pc := 464) rw_0_464 (x := (2 : Int32)) rfl rfl ?_
  refine to_2 (pc := 465) rw_0_465 (v := (2 : Int32)) (by decide +kernel) ?_
  refine op_x (pc := 466) rw_0_466 (k := 2) (by decide +kernel) hx2 ?_
  refine to_v (pc := 467) rw_0_467 (hi := rfl) (ls0 := [.ref 0, .int _, .int _]) rfl (Nat.le_of_ble_eq_true rfl) (Nat.le_of_ble_eq_true rfl) rfl (to_rc rfl rfl rfl fO_fr_M_0_10) rfl ?_
  refine to_an (pc := 0) rw_116_0 rfl ?_
  refine tt_gR (pc := 1) rw_116_1 fO_fr_M_0_10 fR_fr_M_0_8 ?_
  refine to_in (pc := 4) rw_116_4 rfl ?_
  refine to_in (pc := 5) rw_116_5 rfl ?_
  refine to_v (pc := 6) rw_116_6 (hi := rfl) (ls0 := [.ref 49, .int _, .int _, .null, .null]) rfl (Nat.le_of_ble_eq_true rfl) (Nat.le_of_ble_eq_true rfl) rfl (to_rc rfl rfl rfl fO_fr_M_49_5) rfl ?_
  refine to_an (pc := 0) rw_49_0 rfl ?_
  refine to_in (pc := 1) rw_49_1 rfl ?_
  refine to_in (pc := 2) rw_49_2 rfl ?_
  refine to_v (pc := 3) rw_49_3 (hi := rfl) (ls0 := [.ref 49, .int _, .int _]) rfl (Nat.le_of_ble_eq_true rfl) (Nat.le_of_ble_eq_true rfl) rfl (to_rc rfl rfl rfl fO_fr_M_49_5) rfl ?_
  refine to_an (pc := 0) rw_46_0 rfl ?_
  refine to_in (pc := 1) rw_46_1 rfl ?_
  refine to_v (pc := 2) rw_46_2 (hi := rfl) (ls0 := [.ref 49, .int _]) rfl (Nat.le_of_ble_eq_true rfl) (Nat.le_of_ble_eq_true rfl) rfl (to_rc rfl rfl rfl fO_fr_M_49_5) rfl ?_
  refine to_in (pc := 0) rw_43_0 rfl ?_
  rcases Int.lt_or_le x1.toInt (0) with h1 | h1
  · refine to_ift (pc := 1) rw_43_1 (cd_of (c := .lt) (show x1.toInt < (0 : Int32).toInt from (by have e1 : (0 : Int32).toInt = 0 := rfl; omega))) ?_
    refine to_c (pc := 16) rw_43_16 (x := (0 : Int32)) rfl rfl ?_
    refine to_r1 (pc := 17) rw_43_17 (by decide +kernel) ?_
    refine to_ift (pc := 5) rw_46_5 (by decide +kernel) ?_
    refine to_c (pc := 34) rw_46_34 (x := (0 : Int32)) rfl rfl ?_
    refine to_r1 (pc := 35) rw_46_35 (by decide +kernel) ?_
    refine to_iff (pc := 6) rw_49_6 (by decide +kernel) ?_
    refine to_cl (pc := 9) rw_49_9 (x := (0 : Int64)) rfl rfl ?_
    refine to_rl (pc := 10) rw_49_10 ?_
    refine to_rl (pc := 9) rw_116_9 ?_
    refine to_an (pc := 470) rw_0_470 rfl ?_
    refine to_an (pc := 471) rw_0_471 rfl ?_
    refine to_i (pc := 472) rw_0_472 rfl ?_
    refine to_c (pc := 474) rw_0_474 (x := (1 : Int32)) rfl rfl ?_
    refine to_2 (pc := 475) rw_0_475 (v := (1 : Int32)) (by decide +kernel) ?_
    refine op_x (pc := 476) rw_0_476 (k := 1) (by decide +kernel) hx1 ?_
    refine to_an (pc := 477) rw_0_477 rfl ?_
    refine to_i (pc := 478) rw_0_478 rfl ?_
    refine to_c (pc := 480) rw_0_480 (x := (2 : Int32)) rfl rfl ?_
    refine to_2 (pc := 481) rw_0_481 (v := (2 : Int32)) (by decide +kernel) ?_
    refine op_x (pc := 482) rw_0_482 (k := 2) (by decide +kernel) hx2 ?_
    refine to_v (pc := 483) rw_0_483 (hi := rfl) (ls0 := [.ref 77, .int _, .int _]) rfl (Nat.le_of_ble_eq_true rfl) (Nat.le_of_ble_eq_true rfl) rfl (to_rc rfl rfl rfl fO_fr_M_77_11) rfl ?_
    refine to_an (pc := 0) rw_185_0 rfl ?_
    refine to_c (pc := 1) rw_185_1 (x := (0 : Int32)) rfl rfl ?_
    refine tt_pI (pc := 2) rw_185_2 fO_fr_M_77_11 ?_
    refine to_an (pc := 5) rw_185_5 rfl ?_
    refine to_in (pc := 6) rw_185_6 rfl ?_
    refine to_in (pc := 7) rw_185_7 rfl ?_
    refine to_v (pc := 8) rw_185_8 (hi := rfl) (ls0 := [.ref 77, .int _, .int _]) rfl (Nat.le_of_ble_eq_true rfl) (Nat.le_of_ble_eq_true rfl) rfl (to_rc rfl rfl rfl fO_fr_M_77_11) rfl ?_
    refine to_an (pc := 0) rw_184_0 rfl ?_
    refine to_in (pc := 1) rw_184_1 rfl ?_
    refine to_v (pc := 2) rw_184_2 (hi := rfl) (ls0 := [.ref 77, .int _]) rfl (Nat.le_of_ble_eq_true rfl) (Nat.le_of_ble_eq_true rfl) rfl (to_rc rfl rfl rfl fO_fr_M_77_11) rfl ?_
    refine to_an (pc := 0) rw_179_0 rfl ?_
    refine to_in (pc := 1) rw_179_1 rfl ?_
    refine to_v (pc := 2) rw_179_2 (hi := rfl) (ls0 := [.ref 77, .int _]) rfl (Nat.le_of_ble_eq_true rfl) (Nat.le_of_ble_eq_true rfl) rfl (to_rc rfl rfl rfl fO_fr_M_77_11) rfl ?_
    refine to_in (pc := 0) rw_178_0 rfl ?_
    refine to_ift (pc := 1) rw_178_1 (cd_of (c := .lt) (show x1.toInt < (0 : Int32).toInt from (by have e1 : (0 : Int32).toInt = 0 := rfl; omega))) ?_
    refine to_c (pc := 16) rw_178_16 (x := (0 : Int32)) rfl rfl ?_
    refine to_r1 (pc := 17) rw_178_17 (by decide +kernel) ?_
    refine to_ift (pc := 5) rw_179_5 (by decide +kernel) ?_
    refine to_c (pc := 22) rw_179_22 (x := (0 : Int32)) rfl rfl ?_
    refine to_r1 (pc := 23) rw_179_23 (by decide +kernel) ?_
    refine to_ift (pc := 5) rw_184_5 (by decide +kernel) ?_
    refine to_c (pc := 26) rw_184_26 (x := (0 : Int32)) rfl rfl ?_
    refine to_r1 (pc := 27) rw_184_27 (by decide +kernel) ?_
    refine to_ift (pc := 11) rw_185_11 (by decide +kernel) ?_
    refine to_cl (pc := 23) rw_185_23 (x := (0 : Int64)) rfl rfl ?_
    refine to_rl (pc := 24) rw_185_24 ?_
    refine to_lc (pc := 486) rw_0_486 (v := (0 : Int32)) (by decide +kernel) ?_
    refine to_ift (pc := 487) rw_0_487 (by decide +kernel) ?_
    exact op_tail (op_c fC_fr_M)
  · refine to_iff (pc := 1) rw_43_1 (cd_no (c := .lt) (show ¬ x1.toInt < (0 : Int32).toInt from (by have e1 : (0 : Int32).toInt = 0 := rfl; omega))) ?_
    refine to_in (pc := 4) rw_43_4 rfl ?_
    refine to_an (pc := 5) rw_43_5 rfl ?_
    refine tt_gI (pc := 6) rw_43_6 fO_fr_M_49_5 fI_fr_M_49_2 ?_
    refine to_ict (pc := 9) rw_43_9 (cd_of (c := .ge) (show x1.toInt ≥ (0 : Int32).toInt from (by have e1 : (0 : Int32).toInt = 0 := rfl; omega))) ?_
    refine to_c (pc := 16) rw_43_16 (x := (0 : Int32)) rfl rfl ?_
    refine to_r1 (pc := 17) rw_43_17 (by decide +kernel) ?_
    refine to_ift (pc := 5) rw_46_5 (by decide +kernel) ?_
    refine to_c (pc := 34) rw_46_34 (x := (0 : Int32)) rfl rfl ?_
    refine to_r1 (pc := 35) rw_46_35 (by decide +kernel) ?_
    refine to_iff (pc := 6) rw_49_6 (by decide +kernel) ?_
    refine to_cl (pc := 9) rw_49_9 (x := (0 : Int64)) rfl rfl ?_
    refine to_rl (pc := 10) rw_49_10 ?_
    refine to_rl (pc := 9) rw_116_9 ?_
    refine to_an (pc := 470) rw_0_470 rfl ?_
    refine to_an (pc := 471) rw_0_471 rfl ?_
    refine to_i (pc := 472) rw_0_472 rfl ?_
    refine to_c (pc := 474) rw_0_474 (x := (1 : Int32)) rfl rfl ?_
    refine to_2 (pc := 475) rw_0_475 (v := (1 : Int32)) (by decide +kernel) ?_
    refine op_x (pc := 476) rw_0_476 (k := 1) (by decide +kernel) hx1 ?_
    refine to_an (pc := 477) rw_0_477 rfl ?_
    refine to_i (pc := 478) rw_0_478 rfl ?_
    refine to_c (pc := 480) rw_0_480 (x := (2 : Int32)) rfl rfl ?_
    refine to_2 (pc := 481) rw_0_481 (v := (2 : Int32)) (by decide +kernel) ?_
    refine op_x (pc := 482) rw_0_482 (k := 2) (by decide +kernel) hx2 ?_
    refine to_v (pc := 483) rw_0_483 (hi := rfl) (ls0 := [.ref 77, .int _, .int _]) rfl (Nat.le_of_ble_eq_true rfl) (Nat.le_of_ble_eq_true rfl) rfl (to_rc rfl rfl rfl fO_fr_M_77_11) rfl ?_
    refine to_an (pc := 0) rw_185_0 rfl ?_
    refine to_c (pc := 1) rw_185_1 (x := (0 : Int32)) rfl rfl ?_
    refine tt_pI (pc := 2) rw_185_2 fO_fr_M_77_11 ?_
    refine to_an (pc := 5) rw_185_5 rfl ?_
    refine to_in (pc := 6) rw_185_6 rfl ?_
    refine to_in (pc := 7) rw_185_7 rfl ?_
    refine to_v (pc := 8) rw_185_8 (hi := rfl) (ls0 := [.ref 77, .int _, .int _]) rfl (Nat.le_of_ble_eq_true rfl) (Nat.le_of_ble_eq_true rfl) rfl (to_rc rfl rfl rfl fO_fr_M_77_11) rfl ?_
    refine to_an (pc := 0) rw_184_0 rfl ?_
    refine to_in (pc := 1) rw_184_1 rfl ?_
    refine to_v (pc := 2) rw_184_2 (hi := rfl) (ls0 := [.ref 77, .int _]) rfl (Nat.le_of_ble_eq_true rfl) (Nat.le_of_ble_eq_true rfl) rfl (to_rc rfl rfl rfl fO_fr_M_77_11) rfl ?_
    refine to_an (pc := 0) rw_179_0 rfl ?_
    refine to_in (pc := 1) rw_179_1 rfl ?_
    refine to_v (pc := 2) rw_179_2 (hi := rfl) (ls0 := [.ref 77, .int _]) rfl (Nat.le_of_ble_eq_true rfl) (Nat.le_of_ble_eq_true rfl) rfl (to_rc rfl rfl rfl fO_fr_M_77_11) rfl ?_
    refine to_in (pc := 0) rw_178_0 rfl ?_
    refine to_iff (pc := 1) rw_178_1 (cd_no (c := .lt) (show ¬ x1.toInt < (0 : Int32).toInt from (by have e1 : (0 : Int32).toInt = 0 := rfl; omega))) ?_
    refine to_in (pc := 4) rw_178_4 rfl ?_
    refine to_an (pc := 5) rw_178_5 rfl ?_
    refine tt_gI (pc := 6) rw_178_6 fO_fr_M_77_11 (rI_n rfl fI_fr_M_77_12) ?_
    refine to_ict (pc := 9) rw_178_9 (cd_of (c := .ge) (show x1.toInt ≥ (0 : Int32).toInt from (by have e1 : (0 : Int32).toInt = 0 := rfl; omega))) ?_
    refine to_c (pc := 16) rw_178_16 (x := (0 : Int32)) rfl rfl ?_
    refine to_r1 (pc := 17) rw_178_17 (by decide +kernel) ?_
    refine to_ift (pc := 5) rw_179_5 (by decide +kernel) ?_
    refine to_c (pc := 22) rw_179_22 (x := (0 : Int32)) rfl rfl ?_
    refine to_r1 (pc := 23) rw_179_23 (by decide +kernel) ?_
    refine to_ift (pc := 5) rw_184_5 (by decide +kernel) ?_
    refine to_c (pc := 26) rw_184_26 (x := (0 : Int32)) rfl rfl ?_
    refine to_r1 (pc := 27) rw_184_27 (by decide +kernel) ?_
    refine to_ift (pc := 11) rw_185_11 (by decide +kernel) ?_
    refine to_cl (pc := 23) rw_185_23 (x := (0 : Int64)) rfl rfl ?_
    refine to_rl (pc := 24) rw_185_24 ?_
    refine to_lc (pc := 486) rw_0_486 (v := (0 : Int32)) (by decide +kernel) ?_
    refine to_ift (pc := 487) rw_0_487 (by decide +kernel) ?_
    exact op_tail (op_c fC_fr_M)
set_option maxHeartbeats 0 in
set_option maxRecDepth 4000 in
theorem op_8 {fr_M fr_1 fr_2 fr_3 fr_4 fr_5 fr_6 fr_7 fr_8 fr_9 fr_10 fr_11 fr_12 : mm_M} (HM : fr_Eq fr_M fr_1 fr_2 fr_3 fr_4 fr_5 fr_6 fr_7 fr_8 fr_9 fr_10 fr_11 fr_12) {xs : Nat → Int32} {x1 x2 x3 x4 x5 : Int32} (hx1 : xs 1 = x1) (hx2 : xs 2 = x2) (hx3 : xs 3 = x3) (hx4 : xs 4 = x4) (hx5 : xs 5 = x5) : mm_T (fr_X 6 xs) 40 0 492 [.ref mm_ext, .ref 0, .ref 77, .ref 125, .int 0, .null, .null] [] fr_M op_Q := by
  have z0 : (0 : Int32).toInt = 0 := rfl
  have fC_fr_M := fC_fr_M HM
  have fI_fr_M_49_3 := fI_fr_M_49_3 HM
  have fI_fr_M_6_0 := fI_fr_M_6_0 HM
  have fI_fr_M_77_13 := fI_fr_M_77_13 HM
  have fI_fr_M_77_29 := fI_fr_M_77_29 HM
  have fO_fr_M_0_10 := fO_fr_M_0_10 HM
  have fO_fr_M_49_5 := fO_fr_M_49_5 HM
  have fO_fr_M_6_3 := fO_fr_M_6_3 HM
  have fO_fr_M_77_11 := fO_fr_M_77_11 HM
  have fR_fr_M_0_1 := fR_fr_M_0_1 HM
  have fR_fr_M_0_8 := fR_fr_M_0_8 HM
  refine to_an (pc := 492) rw_0_492 rfl ?_
  refine to_an (pc := 493) rw_0_493 rfl ?_
  refine to_i (pc := 494) rw_0_494 rfl ?_
  refine to_c (pc := 496) rw_0_496 (x := (1 : Int32)) rfl rfl ?_
  refine to_2 (pc := 497) rw_0_497 (v := (1 : Int32)) (by decide +kernel) ?_
  refine op_x (pc := 498) rw_0_498 (k := 1) (by decide +kernel) hx1 ?_
  refine to_an (pc := 499) rw_0_499 rfl ?_
  refine to_i (pc := 500) rw_0_500 rfl ?_
  refine to_c (pc := 502) rw_0_502 (x := (2 : Int32)) rfl rfl ?_
  refine to_2 (pc := 503) rw_0_503 (v := (2 : Int32)) (by decide +kernel) ?_
  refine op_x (pc := 504) rw_0_504 (k := 2) (by decide +kernel) hx2 ?_
  refine to_v (pc := 505) rw_0_505 (hi := rfl) (ls0 := [.ref 0, .int _, .int _]) rfl (Nat.le_of_ble_eq_true rfl) (Nat.le_of_ble_eq_true rfl) rfl (to_rc rfl rfl rfl fO_fr_M_0_10) rfl ?_
  refine to_an (pc := 0) rw_117_0 rfl ?_
  refine to_in (pc := 1) rw_117_1 rfl ?_
  refine to_v (pc := 2) rw_117_2 (hi := rfl) (ls0 := [.ref 0, .int _]) rfl (Nat.le_of_ble_eq_true rfl) (Nat.le_of_ble_eq_true rfl) rfl (to_rc rfl rfl rfl fO_fr_M_0_10) rfl ?_
  refine to_in (pc := 0) rw_139_0 rfl ?_
  rcases Int.lt_or_le x1.toInt (0) with h1 | h1
  · refine to_ift (pc := 1) rw_139_1 (cd_of (c := .lt) (show x1.toInt < (0 : Int32).toInt from (by have e1 : (0 : Int32).toInt = 0 := rfl; omega))) ?_
    refine to_c (pc := 19) rw_139_19 (x := (0 : Int32)) rfl rfl ?_
    refine to_r1 (pc := 20) rw_139_20 (by decide +kernel) ?_
    refine to_ift (pc := 5) rw_117_5 (by decide +kernel) ?_
    refine to_cl (pc := 19) rw_117_19 (x := (0 : Int64)) rfl rfl ?_
    refine to_rl (pc := 20) rw_117_20 ?_
    refine to_an (pc := 508) rw_0_508 rfl ?_
    refine to_an (pc := 509) rw_0_509 rfl ?_
    refine to_i (pc := 510) rw_0_510 rfl ?_
    refine to_c (pc := 512) rw_0_512 (x := (1 : Int32)) rfl rfl ?_
    refine to_2 (pc := 513) rw_0_513 (v := (1 : Int32)) (by decide +kernel) ?_
    refine op_x (pc := 514) rw_0_514 (k := 1) (by decide +kernel) hx1 ?_
    refine to_an (pc := 515) rw_0_515 rfl ?_
    refine to_i (pc := 516) rw_0_516 rfl ?_
    refine to_c (pc := 518) rw_0_518 (x := (2 : Int32)) rfl rfl ?_
    refine to_2 (pc := 519) rw_0_519 (v := (2 : Int32)) (by decide +kernel) ?_
    refine op_x (pc := 520) rw_0_520 (k := 2) (by decide +kernel) hx2 ?_
    refine to_v (pc := 521) rw_0_521 (hi := rfl) (ls0 := [.ref 77, .int _, .int _]) rfl (Nat.le_of_ble_eq_true rfl) (Nat.le_of_ble_eq_true rfl) rfl (to_rc rfl rfl rfl fO_fr_M_77_11) rfl ?_
    refine to_an (pc := 0) rw_192_0 rfl ?_
    refine to_c (pc := 1) rw_192_1 (x := (0 : Int32)) rfl rfl ?_
    refine tt_pI (pc := 2) rw_192_2 fO_fr_M_77_11 ?_
    refine to_an (pc := 5) rw_192_5 rfl ?_
    refine to_in (pc := 6) rw_192_6 rfl ?_
    refine to_v (pc := 7) rw_192_7 (hi := rfl) (ls0 := [.ref 77, .int _]) rfl (Nat.le_of_ble_eq_true rfl) (Nat.le_of_ble_eq_true rfl) rfl (to_rc rfl rfl rfl fO_fr_M_77_11) rfl ?_
    refine to_in (pc := 0) rw_186_0 rfl ?_
    refine to_ift (pc := 1) rw_186_1 (cd_of (c := .lt) (show x1.toInt < (0 : Int32).toInt from (by have e1 : (0 : Int32).toInt = 0 := rfl; omega))) ?_
    refine to_c (pc := 16) rw_186_16 (x := (0 : Int32)) rfl rfl ?_
    refine to_r1 (pc := 17) rw_186_17 (by decide +kernel) ?_
    refine to_ift (pc := 10) rw_192_10 (by decide +kernel) ?_
    refine to_cl (pc := 21) rw_192_21 (x := (0 : Int64)) rfl rfl ?_
    refine to_rl (pc := 22) rw_192_22 ?_
    refine to_lc (pc := 524) rw_0_524 (v := (0 : Int32)) (by decide +kernel) ?_
    refine to_ift (pc := 525) rw_0_525 (by decide +kernel) ?_
    exact op_tail (op_c fC_fr_M)
  · refine to_iff (pc := 1) rw_139_1 (cd_no (c := .lt) (show ¬ x1.toInt < (0 : Int32).toInt from (by have e1 : (0 : Int32).toInt = 0 := rfl; omega))) ?_
    refine to_in (pc := 4) rw_139_4 rfl ?_
    refine to_an (pc := 5) rw_139_5 rfl ?_
    refine tt_gR (pc := 6) rw_139_6 fO_fr_M_0_10 fR_fr_M_0_1 ?_
    refine tt_gI (pc := 9) rw_139_9 fO_fr_M_6_3 fI_fr_M_6_0 ?_
    rcases Int.lt_or_le x1.toInt (1) with h2 | h2
    · refine to_icf (pc := 12) rw_139_12 (cd_no (c := .gt) (show ¬ x1.toInt > (0 : Int32).toInt from (by have e1 : (0 : Int32).toInt = 0 := rfl; omega))) ?_
      refine to_c (pc := 15) rw_139_15 (x := (1 : Int32)) rfl rfl ?_
      refine to_go (pc := 16) rw_139_16 ?_
      refine to_r1 (pc := 20) rw_139_20 (by decide +kernel) ?_
      refine to_iff (pc := 5) rw_117_5 (by decide +kernel) ?_
      refine to_an (pc := 8) rw_117_8 rfl ?_
      refine tt_gR (pc := 9) rw_117_9 fO_fr_M_0_10 fR_fr_M_0_8 ?_
      refine to_in (pc := 12) rw_117_12 rfl ?_
      refine to_v (pc := 13) rw_117_13 (hi := rfl) (ls0 := [.ref 49, .int _]) rfl (Nat.le_of_ble_eq_true rfl) (Nat.le_of_ble_eq_true rfl) rfl (to_rc rfl rfl rfl fO_fr_M_49_5) rfl ?_
      refine to_in (pc := 0) rw_44_0 rfl ?_
      rcases Int.lt_or_le x2.toInt (0) with h3 | h3
      · refine to_ift (pc := 1) rw_44_1 (cd_of (c := .lt) (show x2.toInt < (0 : Int32).toInt from (by have e1 : (0 : Int32).toInt = 0 := rfl; omega))) ?_
        refine to_c (pc := 16) rw_44_16 (x := (0 : Int32)) rfl rfl ?_
        refine to_r1 (pc := 17) rw_44_17 (by decide +kernel) ?_
        refine to_iff (pc := 16) rw_117_16 (by decide +kernel) ?_
        refine to_cl (pc := 19) rw_117_19 (x := (0 : Int64)) rfl rfl ?_
        refine to_rl (pc := 20) rw_117_20 ?_
        refine to_an (pc := 508) rw_0_508 rfl ?_
        refine to_an (pc := 509) rw_0_509 rfl ?_
        refine to_i (pc := 510) rw_0_510 rfl ?_
        refine to_c (pc := 512) rw_0_512 (x := (1 : Int32)) rfl rfl ?_
        refine to_2 (pc := 513) rw_0_513 (v := (1 : Int32)) (by decide +kernel) ?_
        refine op_x (pc := 514) rw_0_514 (k := 1) (by decide +kernel) hx1 ?_
        refine to_an (pc := 515) rw_0_515 rfl ?_
        refine to_i (pc := 516) rw_0_516 rfl ?_
        refine to_c (pc := 518) rw_0_518 (x := (2 : Int32)) rfl rfl ?_
        refine to_2 (pc := 519) rw_0_519 (v := (2 : Int32)) (by decide +kernel) ?_
        refine op_x (pc := 520) rw_0_520 (k := 2) (by decide +kernel) hx2 ?_
        refine to_v (pc := 521) rw_0_521 (hi := rfl) (ls0 := [.ref 77, .int _, .int _]) rfl (Nat.le_of_ble_eq_true rfl) (Nat.le_of_ble_eq_true rfl) rfl (to_rc rfl rfl rfl fO_fr_M_77_11) rfl ?_
        refine to_an (pc := 0) rw_192_0 rfl ?_
        refine to_c (pc := 1) rw_192_1 (x := (0 : Int32)) rfl rfl ?_
        refine tt_pI (pc := 2) rw_192_2 fO_fr_M_77_11 ?_
        refine to_an (pc := 5) rw_192_5 rfl ?_
        refine to_in (pc := 6) rw_192_6 rfl ?_
        refine to_v (pc := 7) rw_192_7 (hi := rfl) (ls0 := [.ref 77, .int _]) rfl (Nat.le_of_ble_eq_true rfl) (Nat.le_of_ble_eq_true rfl) rfl (to_rc rfl rfl rfl fO_fr_M_77_11) rfl ?_
        refine to_in (pc := 0) rw_186_0 rfl ?_
        refine to_iff (pc := 1) rw_186_1 (cd_no (c := .lt) (show ¬ x1.toInt < (0 : Int32).toInt from (by have e1 : (0 : Int32).toInt = 0 := rfl; omega))) ?_
        refine to_in (pc := 4) rw_186_4 rfl ?_
        refine to_an (pc := 5) rw_186_5 rfl ?_
        refine tt_gI (pc := 6) rw_186_6 fO_fr_M_77_11 (rI_n rfl fI_fr_M_77_29) ?_
        refine to_icf (pc := 9) rw_186_9 (cd_no (c := .gt) (show ¬ x1.toInt > (0 : Int32).toInt from (by have e1 : (0 : Int32).toInt = 0 := rfl; omega))) ?_
        refine to_c (pc := 12) rw_186_12 (x := (1 : Int32)) rfl rfl ?_
        refine to_go (pc := 13) rw_186_13 ?_
        refine to_r1 (pc := 17) rw_186_17 (by decide +kernel) ?_
        refine to_iff (pc := 10) rw_192_10 (by decide +kernel) ?_
        refine to_an (pc := 13) rw_192_13 rfl ?_
        refine to_in (pc := 14) rw_192_14 rfl ?_
        refine to_v (pc := 15) rw_192_15 (hi := rfl) (ls0 := [.ref 77, .int _]) rfl (Nat.le_of_ble_eq_true rfl) (Nat.le_of_ble_eq_true rfl) rfl (to_rc rfl rfl rfl fO_fr_M_77_11) rfl ?_
        refine to_in (pc := 0) rw_180_0 rfl ?_
        refine to_ift (pc := 1) rw_180_1 (cd_of (c := .lt) (show x2.toInt < (0 : Int32).toInt from (by have e1 : (0 : Int32).toInt = 0 := rfl; omega))) ?_
        refine to_c (pc := 16) rw_180_16 (x := (0 : Int32)) rfl rfl ?_
        refine to_r1 (pc := 17) rw_180_17 (by decide +kernel) ?_
        refine to_iff (pc := 18) rw_192_18 (by decide +kernel) ?_
        refine to_cl (pc := 21) rw_192_21 (x := (0 : Int64)) rfl rfl ?_
        refine to_rl (pc := 22) rw_192_22 ?_
        refine to_lc (pc := 524) rw_0_524 (v := (0 : Int32)) (by decide +kernel) ?_
        refine to_ift (pc := 525) rw_0_525 (by decide +kernel) ?_
        exact op_tail (op_c fC_fr_M)
      · refine to_iff (pc := 1) rw_44_1 (cd_no (c := .lt) (show ¬ x2.toInt < (0 : Int32).toInt from (by have e1 : (0 : Int32).toInt = 0 := rfl; omega))) ?_
        refine to_in (pc := 4) rw_44_4 rfl ?_
        refine to_an (pc := 5) rw_44_5 rfl ?_
        refine tt_gI (pc := 6) rw_44_6 fO_fr_M_49_5 fI_fr_M_49_3 ?_
        refine to_ict (pc := 9) rw_44_9 (cd_of (c := .ge) (show x2.toInt ≥ (0 : Int32).toInt from (by have e1 : (0 : Int32).toInt = 0 := rfl; omega))) ?_
        refine to_c (pc := 16) rw_44_16 (x := (0 : Int32)) rfl rfl ?_
        refine to_r1 (pc := 17) rw_44_17 (by decide +kernel) ?_
        refine to_iff (pc := 16) rw_117_16 (by decide +kernel) ?_
        refine to_cl (pc := 19) rw_117_19 (x := (0 : Int64)) rfl rfl ?_
        refine to_rl (pc := 20) rw_117_20 ?_
        refine to_an (pc := 508) rw_0_508 rfl ?_
        refine to_an (pc := 509) rw_0_509 rfl ?_
        refine to_i (pc := 510) rw_0_510 rfl ?_
        refine to_c (pc := 512) rw_0_512 (x := (1 : Int32)) rfl rfl ?_
        refine to_2 (pc := 513) rw_0_513 (v := (1 : Int32)) (by decide +kernel) ?_
        refine op_x (pc := 514) rw_0_514 (k := 1) (by decide +kernel) hx1 ?_
        refine to_an (pc := 515) rw_0_515 rfl ?_
        refine to_i (pc := 516) rw_0_516 rfl ?_
        refine to_c (pc := 518) rw_0_518 (x := (2 : Int32)) rfl rfl ?_
        refine to_2 (pc := 519) rw_0_519 (v := (2 : Int32)) (by decide +kernel) ?_
        refine op_x (pc := 520) rw_0_520 (k := 2) (by decide +kernel) hx2 ?_
        refine to_v (pc := 521) rw_0_521 (hi := rfl) (ls0 := [.ref 77, .int _, .int _]) rfl (Nat.le_of_ble_eq_true rfl) (Nat.le_of_ble_eq_true rfl) rfl (to_rc rfl rfl rfl fO_fr_M_77_11) rfl ?_
        refine to_an (pc := 0) rw_192_0 rfl ?_
        refine to_c (pc := 1) rw_192_1 (x := (0 : Int32)) rfl rfl ?_
        refine tt_pI (pc := 2) rw_192_2 fO_fr_M_77_11 ?_
        refine to_an (pc := 5) rw_192_5 rfl ?_
        refine to_in (pc := 6) rw_192_6 rfl ?_
        refine to_v (pc := 7) rw_192_7 (hi := rfl) (ls0 := [.ref 77, .int _]) rfl (Nat.le_of_ble_eq_true rfl) (Nat.le_of_ble_eq_true rfl) rfl (to_rc rfl rfl rfl fO_fr_M_77_11) rfl ?_
        refine to_in (pc := 0) rw_186_0 rfl ?_
        refine to_iff (pc := 1) rw_186_1 (cd_no (c := .lt) (show ¬ x1.toInt < (0 : Int32).toInt from (by have e1 : (0 : Int32).toInt = 0 := rfl; omega))) ?_
        refine to_in (pc := 4) rw_186_4 rfl ?_
        refine to_an (pc := 5) rw_186_5 rfl ?_
        refine tt_gI (pc := 6) rw_186_6 fO_fr_M_77_11 (rI_n rfl fI_fr_M_77_29) ?_
        refine to_icf (pc := 9) rw_186_9 (cd_no (c := .gt) (show ¬ x1.toInt > (0 : Int32).toInt from (by have e1 : (0 : Int32).toInt = 0 := rfl; omega))) ?_
        refine to_c (pc := 12) rw_186_12 (x := (1 : Int32)) rfl rfl ?_
        refine to_go (pc := 13) rw_186_13 ?_
        refine to_r1 (pc := 17) rw_186_17 (by decide +kernel) ?_
        refine to_iff (pc := 10) rw_192_10 (by decide +kernel) ?_
        refine to_an (pc := 13) rw_192_13 rfl ?_
        refine to_in (pc := 14) rw_192_14 rfl ?_
        refine to_v (pc := 15) rw_192_15 (hi := rfl) (ls0 := [.ref 77, .int _]) rfl (Nat.le_of_ble_eq_true rfl) (Nat.le_of_ble_eq_true rfl) rfl (to_rc rfl rfl rfl fO_fr_M_77_11) rfl ?_
        refine to_in (pc := 0) rw_180_0 rfl ?_
        refine to_iff (pc := 1) rw_180_1 (cd_no (c := .lt) (show ¬ x2.toInt < (0 : Int32).toInt from (by have e1 : (0 : Int32).toInt = 0 := rfl; omega))) ?_
        refine to_in (pc := 4) rw_180_4 rfl ?_
        refine to_an (pc := 5) rw_180_5 rfl ?_
        refine tt_gI (pc := 6) rw_180_6 fO_fr_M_77_11 (rI_n rfl fI_fr_M_77_13) ?_
        refine to_ict (pc := 9) rw_180_9 (cd_of (c := .ge) (show x2.toInt ≥ (0 : Int32).toInt from (by have e1 : (0 : Int32).toInt = 0 := rfl; omega))) ?_
        refine to_c (pc := 16) rw_180_16 (x := (0 : Int32)) rfl rfl ?_
        refine to_r1 (pc := 17) rw_180_17 (by decide +kernel) ?_
        refine to_iff (pc := 18) rw_192_18 (by decide +kernel) ?_
        refine to_cl (pc := 21) rw_192_21 (x := (0 : Int64)) rfl rfl ?_
        refine to_rl (pc := 22) rw_192_22 ?_
        refine to_lc (pc := 524) rw_0_524 (v := (0 : Int32)) (by decide +kernel) ?_
        refine to_ift (pc := 525) rw_0_525 (by decide +kernel) ?_
        exact op_tail (op_c fC_fr_M)
    · refine to_ict (pc := 12) rw_139_12 (cd_of (c := .gt) (show x1.toInt > (0 : Int32).toInt from (by have e1 : (0 : Int32).toInt = 0 := rfl; omega))) ?_
      refine to_c (pc := 19) rw_139_19 (x := (0 : Int32)) rfl rfl ?_
      refine to_r1 (pc := 20) rw_139_20 (by decide +kernel) ?_
      refine to_ift (pc := 5) rw_117_5 (by decide +kernel) ?_
      refine to_cl (pc := 19) rw_117_19 (x := (0 : Int64)) rfl rfl ?_
      refine to_rl (pc := 20) rw_117_20 ?_
      refine to_an (pc := 508) rw_0_508 rfl ?_
      refine to_an (pc := 509) rw_0_509 rfl ?_
      refine to_i (pc := 510) rw_0_510 rfl ?_
      refine to_c (pc := 512) rw_0_512 (x := (1 : Int32)) rfl rfl ?_
      refine to_2 (pc := 513) rw_0_513 (v := (1 : Int32)) (by decide +kernel) ?_
      refine op_x (pc := 514) rw_0_514 (k := 1) (by decide +kernel) hx1 ?_
      refine to_an (pc := 515) rw_0_515 rfl ?_
      refine to_i (pc := 516) rw_0_516 rfl ?_
      refine to_c (pc := 518) rw_0_518 (x := (2 : Int32)) rfl rfl ?_
      refine to_2 (pc := 519) rw_0_519 (v := (2 : Int32)) (by decide +kernel) ?_
      refine op_x (pc := 520) rw_0_520 (k := 2) (by decide +kernel) hx2 ?_
      refine to_v (pc := 521) rw_0_521 (hi := rfl) (ls0 := [.ref 77, .int _, .int _]) rfl (Nat.le_of_ble_eq_true rfl) (Nat.le_of_ble_eq_true rfl) rfl (to_rc rfl rfl rfl fO_fr_M_77_11) rfl ?_
      refine to_an (pc := 0) rw_192_0 rfl ?_
      refine to_c (pc := 1) rw_192_1 (x := (0 : Int32)) rfl rfl ?_
      refine tt_pI (pc := 2) rw_192_2 fO_fr_M_77_11 ?_
      refine to_an (pc := 5) rw_192_5 rfl ?_
      refine to_in (pc := 6) rw_192_6 rfl ?_
      refine to_v (pc := 7) rw_192_7 (hi := rfl) (ls0 := [.ref 77, .int _]) rfl (Nat.le_of_ble_eq_true rfl) (Nat.le_of_ble_eq_true rfl) rfl (to_rc rfl rfl rfl fO_fr_M_77_11) rfl ?_
      refine to_in (pc := 0) rw_186_0 rfl ?_
      refine to_iff (pc := 1) rw_186_1 (cd_no (c := .lt) (show ¬ x1.toInt < (0 : Int32).toInt from (by have e1 : (0 : Int32).toInt = 0 := rfl; omega))) ?_
      refine to_in (pc := 4) rw_186_4 rfl ?_
      refine to_an (pc := 5) rw_186_5 rfl ?_
      refine tt_gI (pc := 6) rw_186_6 fO_fr_M_77_11 (rI_n rfl fI_fr_M_77_29) ?_
      refine to_ict (pc := 9) rw_186_9 (cd_of (c := .gt) (show x1.toInt > (0 : Int32).toInt from (by have e1 : (0 : Int32).toInt = 0 := rfl; omega))) ?_
      refine to_c (pc := 16) rw_186_16 (x := (0 : Int32)) rfl rfl ?_
      refine to_r1 (pc := 17) rw_186_17 (by decide +kernel) ?_
      refine to_ift (pc := 10) rw_192_10 (by decide +kernel) ?_
      refine to_cl (pc := 21) rw_192_21 (x := (0 : Int64)) rfl rfl ?_
      refine to_rl (pc := 22) rw_192_22 ?_
      refine to_lc (pc := 524) rw_0_524 (v := (0 : Int32)) (by decide +kernel) ?_
      refine to_ift (pc := 525) rw_0_525 (by decide +kernel) ?_
      exact op_tail (op_c fC_fr_M)
set_option maxHeartbeats 0 in
set_option maxRecDepth 4000 in
theorem op_9 {fr_M fr_1 fr_2 fr_3 fr_4 fr_5 fr_6 fr_7 fr_8 fr_9 fr_10 fr_11 fr_12 : mm_M} (HM : fr_Eq fr_M fr_1 fr_2 fr_3 fr_4 fr_5 fr_6 fr_7 fr_8 fr_9 fr_10 fr_11 fr_12) {xs : Nat → Int32} {x1 x2 x3 x4 x5 : Int32} (hx1 : xs 1 = x1) (hx2 : xs 2 = x2) (hx3 : xs 3 = x3) (hx4 : xs 4 = x4) (hx5 : xs 5 = x5) : mm_T (fr_X 6 xs) 40 0 530 [.ref mm_ext, .ref 0, .ref 77, .ref 125, .int 0, .null, .null] [] fr_M op_Q := by
  have z0 : (0 : Int32).toInt = 0 := rfl
  have fC_fr_8 := fC_fr_8 HM
  have fO_fr_7_77_11 := fO_fr_7_77_11 HM
  have fO_fr_M_0_10 := fO_fr_M_0_10 HM
  refine to_an (pc := 530) rw_0_530 rfl ?_
  refine to_v (pc := 531) rw_0_531 (hi := rfl) (ls0 := [.ref 0]) rfl (Nat.le_of_ble_eq_true rfl) (Nat.le_of_ble_eq_true rfl) rfl (to_rc rfl rfl rfl fO_fr_M_0_10) rfl ?_
  refine (fr_7_T HM) ?_
  refine to_an (pc := 534) rw_0_534 rfl ?_
  refine to_v (pc := 535) rw_0_535 (hi := rfl) (ls0 := [.ref 77]) rfl (Nat.le_of_ble_eq_true rfl) (Nat.le_of_ble_eq_true rfl) rfl (to_rc rfl rfl rfl fO_fr_7_77_11) rfl ?_
  refine (fr_8_T HM) ?_
  refine to_ict (pc := 538) rw_0_538 (by decide +kernel) ?_
  exact op_tail (op_c fC_fr_8)
