/-! what each operation does on the fresh state -/
set_option maxHeartbeats 0 in
set_option maxRecDepth 4000 in
theorem op_23 {fr_M fr_1 fr_2 fr_3 fr_4 fr_5 fr_6 fr_7 fr_8 fr_9 fr_10 fr_11 fr_12 : mm_M} (HM : fr_Eq fr_M fr_1 fr_2 fr_3 fr_4 fr_5 fr_6 fr_7 fr_8 fr_9 fr_10 fr_11 fr_12) {xs : Nat → Int32} {x1 x2 x3 x4 x5 : Int32} (hx1 : xs 1 = x1) (hx2 : xs 2 = x2) (hx3 : xs 3 = x3) (hx4 : xs 4 = x4) (hx5 : xs 5 = x5) : mm_T (fr_X 6 xs) 40 0 1037 [.ref mm_ext, .ref 0, .ref 77, .ref 125, .int 0, .null, .null] [] fr_M op_Q := by
  have z0 : (0 : Int32).toInt = 0 := rfl
  have fC_fr_M := fC_fr_M HM
  have fI_fr_M_49_3 := fI_fr_M_49_3 HM
  have fI_fr_M_6_0 := fI_fr_M_6_0 HM
  have fI_fr_M_77_13 := fI_fr_M_77_13 HM
  have fI_fr_M_77_29 := fI_fr_M_77_29 HM
  have fO_fr_M_0_10 := fO_fr_M_0_10 HM
  have fO_fr_M_49_5 := fO_fr_M_49_5 HM
  have fO_fr_M_6_3 := fO_fr_M_6_3 HM
  have fO_fr_M_77_11 := fO_fr_M_77_11 HM
  have fR_fr_M_0_1 := fR_fr_M_0_1 HM
  have fR_fr_M_0_8 := fR_fr_M_0_8 HM
  refine to_an (pc := 1037) rw_0_1037 rfl ?_
  refine to_an (pc := 1038) rw_0_1038 rfl ?_
  refine to_i (pc := 1039) rw_0_1039 rfl ?_
  refine to_c (pc := 1041) rw_0_1041 (x := (1 : Int32)) rfl rfl ?_
  refine to_2 (pc := 1042) rw_0_1042 (v := (1 : Int32)) (by decide +kernel) ?_
  refine op_x (pc := 1043) rw_0_1043 (k := 1) (by decide +kernel) hx1 ?_
  refine to_an (pc := 1044) rw_0_1044 rfl ?_
  refine to_i (pc := 1045) rw_0_1045 rfl ?_
  refine to_c (pc := 1047) rw_0_1047 (x := (2 : Int32)) rfl rfl ?_
  refine to_2 (pc := 1048) rw_0_1048 (v := (2 : Int32)) (by decide +kernel) ?_
  refine op_x (pc := 1049) rw_0_1049 (k := 2) (by decide +kernel) hx2 ?_
  refine to_an (pc := 1050) rw_0_1050 rfl ?_
  refine to_i (pc := 1051) rw_0_1051 rfl ?_
  refine to_c (pc := 1053) rw_0_1053 (x := (3 : Int32)) rfl rfl ?_
  refine to_2 (pc := 1054) rw_0_1054 (v := (3 : Int32)) (by decide +kernel) ?_
  refine op_x (pc := 1055) rw_0_1055 (k := 3) (by decide +kernel) hx3 ?_
  refine to_v (pc := 1056) rw_0_1056 (hi := rfl) (ls0 := [.ref 0, .int _, .int _, .int _, .null, .null, .null, .null, .null]) rfl (Nat.le_of_ble_eq_true rfl) (Nat.le_of_ble_eq_true rfl) rfl (to_rc rfl rfl rfl fO_fr_M_0_10) rfl ?_
  refine to_an (pc := 0) rw_132_0 rfl ?_
  refine to_in (pc := 1) rw_132_1 rfl ?_
  refine to_v (pc := 2) rw_132_2 (hi := rfl) (ls0 := [.ref 0, .int _]) rfl (Nat.le_of_ble_eq_true rfl) (Nat.le_of_ble_eq_true rfl) rfl (to_rc rfl rfl rfl fO_fr_M_0_10) rfl ?_
  refine to_in (pc := 0) rw_139_0 rfl ?_
  rcases Int.lt_or_le x1.toInt (0) with h1 | h1
  · refine to_ift (pc := 1) rw_139_1 (cd_of (c := .lt) (show x1.toInt < (0 : Int32).toInt from (by have e1 : (0 : Int32).toInt = 0 := rfl; omega))) ?_
    refine to_c (pc := 19) rw_139_19 (x := (0 : Int32)) rfl rfl ?_
    refine to_r1 (pc := 20) rw_139_20 (by decide +kernel) ?_
    refine to_ift (pc := 5) rw_132_5 (by decide +kernel) ?_
    refine to_cl (pc := 28) rw_132_28 (x := (-1 : Int64)) rfl rfl ?_
    refine to_rl (pc := 31) rw_132_31 ?_
    refine to_an (pc := 1059) rw_0_1059 rfl ?_
    refine to_an (pc := 1060) rw_0_1060 rfl ?_
    refine to_i (pc := 1061) rw_0_1061 rfl ?_
    refine to_c (pc := 1063) rw_0_1063 (x := (1 : Int32)) rfl rfl ?_
    refine to_2 (pc := 1064) rw_0_1064 (v := (1 : Int32)) (by decide +kernel) ?_
    refine op_x (pc := 1065) rw_0_1065 (k := 1) (by decide +kernel) hx1 ?_
    refine to_an (pc := 1066) rw_0_1066 rfl ?_
    refine to_i (pc := 1067) rw_0_1067 rfl ?_
    refine to_c (pc := 1069) rw_0_1069 (x := (2 : Int32)) rfl rfl ?_
    refine to_2 (pc := 1070) rw_0_1070 (v := (2 : Int32)) (by decide +kernel) ?_
    refine op_x (pc := 1071) rw_0_1071 (k := 2) (by decide +kernel) hx2 ?_
    refine to_an (pc := 1072) rw_0_1072 rfl ?_
    refine to_i (pc := 1073) rw_0_1073 rfl ?_
    refine to_c (pc := 1075) rw_0_1075 (x := (3 : Int32)) rfl rfl ?_
    refine to_2 (pc := 1076) rw_0_1076 (v := (3 : Int32)) (by decide +kernel) ?_
    refine op_x (pc := 1077) rw_0_1077 (k := 3) (by decide +kernel) hx3 ?_
    refine to_v (pc := 1078) rw_0_1078 (hi := rfl) (ls0 := [.ref 77, .int _, .int _, .int _, .null, .null, .null, .null]) rfl (Nat.le_of_ble_eq_true rfl) (Nat.le_of_ble_eq_true rfl) rfl (to_rc rfl rfl rfl fO_fr_M_77_11) rfl ?_
    refine to_an (pc := 0) rw_233_0 rfl ?_
    refine to_c (pc := 1) rw_233_1 (x := (0 : Int32)) rfl rfl ?_
    refine tt_pI (pc := 2) rw_233_2 fO_fr_M_77_11 ?_
    refine to_an (pc := 5) rw_233_5 rfl ?_
    refine to_in (pc := 6) rw_233_6 rfl ?_
    refine to_v (pc := 7) rw_233_7 (hi := rfl) (ls0 := [.ref 77, .int _]) rfl (Nat.le_of_ble_eq_true rfl) (Nat.le_of_ble_eq_true rfl) rfl (to_rc rfl rfl rfl fO_fr_M_77_11) rfl ?_
    refine to_in (pc := 0) rw_186_0 rfl ?_
    refine to_ift (pc := 1) rw_186_1 (cd_of (c := .lt) (show x1.toInt < (0 : Int32).toInt from (by have e1 : (0 : Int32).toInt = 0 := rfl; omega))) ?_
    refine to_c (pc := 16) rw_186_16 (x := (0 : Int32)) rfl rfl ?_
    refine to_r1 (pc := 17) rw_186_17 (by decide +kernel) ?_
    refine to_ift (pc := 10) rw_233_10 (by decide +kernel) ?_
    refine to_cl (pc := 30) rw_233_30 (x := (-1 : Int64)) rfl rfl ?_
    refine to_rl (pc := 33) rw_233_33 ?_
    refine to_lc (pc := 1081) rw_0_1081 (v := (0 : Int32)) (by decide +kernel) ?_
    refine to_ift (pc := 1082) rw_0_1082 (by decide +kernel) ?_
    exact op_tail (op_c fC_fr_M)
  · refine to_iff (pc := 1) rw_139_1 (cd_no (c := .lt) (show ¬ x1.toInt < (0 : Int32).toInt from (by have e1 : (0 : Int32).toInt = 0 := rfl; omega))) ?_
    refine to_in (pc := 4) rw_139_4 rfl ?_
    refine to_an (pc := 5) rw_139_5 rfl ?_
    refine tt_gR (pc := 6) rw_139_6 fO_fr_M_0_10 fR_fr_M_0_1 ?_
    refine tt_gI (pc := 9) rw_139_9 fO_fr_M_6_3 fI_fr_M_6_0 ?_
    rcases Int.lt_or_le x1.toInt (1) with h2 | h2
    · refine to_icf (pc := 12) rw_139_12 (cd_no (c := .gt) (show ¬ x1.toInt > (0 : Int32).toInt from (by have e1 : (0 : Int32).toInt = 0 := rfl; omega))) ?_
      refine to_c (pc := 15) rw_139_15 (x := (1 : Int32)) rfl rfl ?_
      refine to_go (pc := 16) rw_139_16 ?_
      refine to_r1 (pc := 20) rw_139_20 (by decide +kernel) ?_
      refine to_iff (pc := 5) rw_132_5 (by decide +kernel) ?_
      refine to_an (pc := 8) rw_132_8 rfl ?_
      refine tt_gR (pc := 9) rw_132_9 fO_fr_M_0_10 fR_fr_M_0_8 ?_
      refine to_in (pc := 12) rw_132_12 rfl ?_
      refine to_v (pc := 13) rw_132_13 (hi := rfl) (ls0 := [.ref 49, .int _]) rfl (Nat.le_of_ble_eq_true rfl) (Nat.le_of_ble_eq_true rfl) rfl (to_rc rfl rfl rfl fO_fr_M_49_5) rfl ?_
      refine to_in (pc := 0) rw_44_0 rfl ?_
      rcases Int.lt_or_le x2.toInt (0) with h3 | h3
      · refine to_ift (pc := 1) rw_44_1 (cd_of (c := .lt) (show x2.toInt < (0 : Int32).toInt from (by have e1 : (0 : Int32).toInt = 0 := rfl; omega))) ?_
        refine to_c (pc := 16) rw_44_16 (x := (0 : Int32)) rfl rfl ?_
        refine to_r1 (pc := 17) rw_44_17 (by decide +kernel) ?_
        refine to_ift (pc := 16) rw_132_16 (by decide +kernel) ?_
        refine to_cl (pc := 28) rw_132_28 (x := (-1 : Int64)) rfl rfl ?_
        refine to_rl (pc := 31) rw_132_31 ?_
        refine to_an (pc := 1059) rw_0_1059 rfl ?_
        refine to_an (pc := 1060) rw_0_1060 rfl ?_
        refine to_i (pc := 1061) rw_0_1061 rfl ?_
        refine to_c (pc := 1063) rw_0_1063 (x := (1 : Int32)) rfl rfl ?_
        refine to_2 (pc := 1064) rw_0_1064 (v := (1 : Int32)) (by decide +kernel) ?_
        refine op_x (pc := 1065) rw_0_1065 (k := 1) (by decide +kernel) hx1 ?_
        refine to_an (pc := 1066) rw_0_1066 rfl ?_
        refine to_i (pc := 1067) rw_0_1067 rfl ?_
        refine to_c (pc := 1069) rw_0_1069 (x := (2 : Int32)) rfl rfl ?_
        refine to_2 (pc := 1070) rw_0_1070 (v := (2 : Int32)) (by decide +kernel) ?_
        refine op_x (pc := 1071) rw_0_1071 (k := 2) (by decide +kernel) hx2 ?_
        refine to_an (pc := 1072) rw_0_1072 rfl ?_
        refine to_i (pc := 1073) rw_0_1073 rfl ?_
        refine to_c (pc := 1075) rw_0_1075 (x := (3 : Int32)) rfl rfl ?_
        refine to_2 (pc := 1076) rw_0_1076 (v := (3 : Int32)) (by decide +kernel) ?_
        refine op_x (pc := 1077) rw_0_1077 (k := 3) (by decide +kernel) hx3 ?_
        refine to_v (pc := 1078) rw_0_1078 (hi := rfl) (ls0 := [.ref 77, .int _, .int _, .int _, .null, .null, .null, .null]) rfl (Nat.le_of_ble_eq_true rfl) (Nat.le_of_ble_eq_true rfl) rfl (to_rc rfl rfl rfl fO_fr_M_77_11) rfl ?_
        refine to_an (pc := 0) rw_233_0 rfl ?_
        refine to_c (pc := 1) rw_233_1 (x := (0 : Int32)) rfl rfl ?_
        refine tt_pI (pc := 2) rw_233_2 fO_fr_M_77_11 ?_
        refine to_an (pc := 5) rw_233_5 rfl ?_
        refine to_in (pc := 6) rw_233_6 rfl ?_
        refine to_v (pc := 7) rw_233_7 (hi := rfl) (ls0 := [.ref 77, .int _]) rfl (Nat.le_of_ble_eq_true rfl) (Nat.le_of_ble_eq_true rfl) rfl (to_rc rfl rfl rfl fO_fr_M_77_11) rfl ?_
        refine to_in (pc := 0) rw_186_0 rfl ?_
        refine to_iff (pc := 1) rw_186_1 (cd_no (c := .lt) (show ¬ x1.toInt < (0 : Int32).toInt from (by have e1 : (0 : Int32).toInt = 0 := rfl; omega))) ?_
        refine to_in (pc := 4) rw_186_4 rfl ?_
        refine to_an (pc := 5) rw_186_5 rfl ?_
        refine tt_gI (pc := 6) rw_186_6 fO_fr_M_77_11 (rI_n rfl fI_fr_M_77_29) ?_
        refine to_icf (pc := 9) rw_186_9 (cd_no (c := .gt) (show ¬ x1.toInt > (0 : Int32).toInt from (by have e1 : (0 : Int32).toInt = 0 := rfl; omega))) ?_
        refine to_c (pc := 12) rw_186_12 (x := (1 : Int32)) rfl rfl ?_
        refine to_go (pc := 13) rw_186_13 ?_
        refine to_r1 (pc := 17) rw_186_17 (by decide +kernel) ?_
        refine to_iff (pc := 10) rw_233_10 (by decide +kernel) ?_
        refine to_an (pc := 13) rw_233_13 rfl ?_
        refine to_in (pc := 14) rw_233_14 rfl ?_
        refine to_v (pc := 15) rw_233_15 (hi := rfl) (ls0 := [.ref 77, .int _]) rfl (Nat.le_of_ble_eq_true rfl) (Nat.le_of_ble_eq_true rfl) rfl (to_rc rfl rfl rfl fO_fr_M_77_11) rfl ?_
        refine to_in (pc := 0) rw_180_0 rfl ?_
        refine to_ift (pc := 1) rw_180_1 (cd_of (c := .lt) (show x2.toInt < (0 : Int32).toInt from (by have e1 : (0 : Int32).toInt = 0 := rfl; omega))) ?_
        refine to_c (pc := 16) rw_180_16 (x := (0 : Int32)) rfl rfl ?_
        refine to_r1 (pc := 17) rw_180_17 (by decide +kernel) ?_
        refine to_ift (pc := 18) rw_233_18 (by decide +kernel) ?_
        refine to_cl (pc := 30) rw_233_30 (x := (-1 : Int64)) rfl rfl ?_
        refine to_rl (pc := 33) rw_233_33 ?_
        refine to_lc (pc := 1081) rw_0_1081 (v := (0 : Int32)) (by decide +kernel) ?_
        refine to_ift (pc := 1082) rw_0_1082 (by decide +kernel) ?_
        exact op_tail (op_c fC_fr_M)
      · refine to_iff (pc := 1) rw_44_1 (cd_no (c := .lt) (show ¬ x2.toInt < (0 : Int32).toInt from (by have e1 : (0 : Int32).toInt = 0 := rfl; omega))) ?_
        refine to_in (pc := 4) rw_44_4 rfl ?_
        refine to_an (pc := 5) rw_44_5 rfl ?_
        refine tt_gI (pc := 6) rw_44_6 fO_fr_M_49_5 fI_fr_M_49_3 ?_
        refine to_ict (pc := 9) rw_44_9 (cd_of (c := .ge) (show x2.toInt ≥ (0 : Int32).toInt from (by have e1 : (0 : Int32).toInt = 0 := rfl; omega))) ?_
        refine to_c (pc := 16) rw_44_16 (x := (0 : Int32)) rfl rfl ?_
        refine to_r1 (pc := 17) rw_44_17 (by decide +kernel) ?_
        refine to_ift (pc := 16) rw_132_16 (by decide +kernel) ?_
        refine to_cl (pc := 28) rw_132_28 (x := (-1 : Int64)) rfl rfl ?_
        refine to_rl (pc := 31) rw_132_31 ?_
        refine to_an (pc := 1059) rw_0_1059 rfl ?_
        refine to_an (pc := 1060) rw_0_1060 rfl ?_
        refine to_i (pc := 1061) rw_0_1061 rfl ?_
        refine to_c (pc := 1063) rw_0_1063 (x := (1 : Int32)) rfl rfl ?_
        refine to_2 (pc := 1064) rw_0_1064 (v := (1 : Int32)) (by decide +kernel) ?_
        refine op_x (pc := 1065) rw_0_1065 (k := 1) (by decide +kernel) hx1 ?_
        refine to_an (pc := 1066) rw_0_1066 rfl ?_
        refine to_i (pc := 1067) rw_0_1067 rfl ?_
        refine to_c (pc := 1069) rw_0_1069 (x := (2 : Int32)) rfl rfl ?_
        refine to_2 (pc := 1070) rw_0_1070 (v := (2 : Int32)) (by decide +kernel) ?_
        refine op_x (pc := 1071) rw_0_1071 (k := 2) (by decide +kernel) hx2 ?_
        refine to_an (pc := 1072) rw_0_1072 rfl ?_
        refine to_i (pc := 1073) rw_0_1073 rfl ?_
        refine to_c (pc := 1075) rw_0_1075 (x := (3 : Int32)) rfl rfl ?_
        refine to_2 (pc := 1076) rw_0_1076 (v := (3 : Int32)) (by decide +kernel) ?_
        refine op_x (pc := 1077) rw_0_1077 (k := 3) (by decide +kernel) hx3 ?_
        refine to_v (pc := 1078) rw_0_1078 (hi := rfl) (ls0 := [.ref 77, .int _, .int _, .int _, .null, .null, .null, .null]) rfl (Nat.le_of_ble_eq_true rfl) (Nat.le_of_ble_eq_true rfl) rfl (to_rc rfl rfl rfl fO_fr_M_77_11) rfl ?_
        refine to_an (pc := 0) rw_233_0 rfl ?_
        refine to_c (pc := 1) rw_233_1 (x := (0 : Int32)) rfl rfl ?_
        refine tt_pI (pc := 2) rw_233_2 fO_fr_M_77_11 ?_
        refine to_an (pc := 5) rw_233_5 rfl ?_
        refine to_in (pc := 6) rw_233_6 rfl ?_
        refine to_v (pc := 7) rw_233_7 (hi := rfl) (ls0 := [.ref 77, .int _]) rfl (Nat.le_of_ble_eq_true rfl) (Nat.le_of_ble_eq_true rfl) rfl (to_rc rfl rfl rfl fO_fr_M_77_11) rfl ?_
        refine to_in (pc := 0) rw_186_0 rfl ?_
        refine to_iff (pc := 1) rw_186_1 (cd_no (c := .lt) (show ¬ x1.toInt < (0 : Int32).toInt from (by have e1 : (0 : Int32).toInt = 0 := rfl; omega))) ?_
        refine to_in (pc := 4) rw_186_4 rfl ?_
        refine to_an (pc := 5) rw_186_5 rfl ?_
        refine tt_gI (pc := 6) rw_186_6 fO_fr_M_77_11 (rI_n rfl fI_fr_M_77_29) ?_
        refine to_icf (pc := 9) rw_186_9 (cd_no (c := .gt) (show ¬ x1.toInt > (0 : Int32).toInt from (by have e1 : (0 : Int32).toInt = 0 := rfl; omega))) ?_
        refine to_c (pc := 12) rw_186_12 (x := (1 : Int32)) rfl rfl ?_
        refine to_go (pc := 13) rw_186_13 ?_
        refine to_r1 (pc := 17) rw_186_17 (by decide +kernel) ?_
        refine to_iff (pc := 10) rw_233_10 (by decide +kernel) ?_
        refine to_an (pc := 13) rw_233_13 rfl ?_
        refine to_in (pc := 14) rw_233_14 rfl ?_
        refine to_v (pc := 15) rw_233_15 (hi := rfl) (ls0 := [.ref 77, .int _]) rfl (Nat.le_of_ble_eq_true rfl) (Nat.le_of_ble_eq_true rfl) rfl (to_rc rfl rfl rfl fO_fr_M_77_11) rfl ?_
        refine to_in (pc := 0) rw_180_0 rfl ?_
        refine to_iff (pc := 1) rw_180_1 (cd_no (c := .lt) (show ¬ x2.toInt < (0 : Int32).toInt from (by have e1 : (0 : Int32).toInt = 0 := rfl; omega))) ?_
        refine to_in (pc := 4) rw_180_4 rfl ?_
        refine to_an (pc := 5) rw_180_5 rfl ?_
        refine tt_gI (pc := 6) rw_180_6 fO_fr_M_77_11 (rI_n rfl fI_fr_M_77_13) ?_
        refine to_ict (pc := 9) rw_180_9 (cd_of (c := .ge) (show x2.toInt ≥ (0 : Int32).toInt from (by have e1 : (0 : Int32).toInt = 0 := rfl; omega))) ?_
        refine to_c (pc := 16) rw_180_16 (x := (0 : Int32)) rfl rfl ?_
        refine to_r1 (pc := 17) rw_180_17 (by decide +kernel) ?_
        refine to_ift (pc := 18) rw_233_18 (by decide +kernel) ?_
        refine to_cl (pc := 30) rw_233_30 (x := (-1 : Int64)) rfl rfl ?_
        refine to_rl (pc := 33) rw_233_33 ?_
        refine to_lc (pc := 1081) rw_0_1081 (v := (0 : Int32)) (by decide +kernel) ?_
        refine to_ift (pc := 1082) rw_0_1082 (by decide +kernel) ?_
        exact op_tail (op_c fC_fr_M)
    · refine to_ict (pc := 12) rw_139_12 (cd_of (c := .gt) (show x1.toInt > (0 : Int32).toInt from (by have e1 : (0 : Int32).toInt = 0 := rfl; omega))) ?_
      refine to_c (pc := 19) rw_139_19 (x := (0 : Int32)) rfl rfl ?_
      refine to_r1 (pc := 20) rw_139_20 (by decide +kernel) ?_
      refine to_ift (pc := 5) rw_132_5 (by decide +kernel) ?_
      refine to_cl (pc := 28) rw_132_28 (x := (-1 : Int64)) rfl rfl ?_
      refine to_rl (pc := 31) rw_132_31 ?_
      refine to_an (pc := 1059) rw_0_1059 rfl ?_
      refine to_an (pc := 1060) rw_0_1060 rfl ?_
      refine to_i (pc := 1061) rw_0_1061 rfl ?_
      refine to_c (pc := 1063) rw_0_1063 (x := (1 : Int32)) rfl rfl ?_
      refine to_2 (pc := 1064) rw_0_1064 (v := (1 : Int32)) (by decide +kernel) ?_
      refine op_x (pc := 1065) rw_0_1065 (k := 1) (by decide +kernel) hx1 ?_
      refine to_an (pc := 1066) rw_0_1066 rfl ?_
      refine to_i (pc := 1067) rw_0_1067 rfl ?_
      refine to_c (pc := 1069) rw_0_1069 (x := (2 : Int32)) rfl rfl ?_
      refine to_2 (pc := 1070) rw_0_1070 (v := (2 : Int32)) (by decide +kernel) ?_
      refine op_x (pc := 1071) rw_0_1071 (k := 2) (by decide +kernel) hx2 ?_
      refine to_an (pc := 1072) rw_0_1072 rfl ?_
      refine to_i (pc := 1073) rw_0_1073 rfl ?_
      refine to_c (pc := 1075) rw_0_1075 (x := (3 : Int32)) rfl rfl ?_
      refine to_2 (pc := 1076) rw_0_1076 (v := (3 : Int32)) (by decide +kernel) ?_
      refine op_x (pc := 1077) rw_0_1077 (k := 3) (by decide +kernel) hx3 ?_
      refine to_v (pc := 1078) rw_0_1078 (hi := rfl) (ls0 := [.ref 77, .int _, .int _, .int _, .null, .null, .null, .null]) rfl (Nat.le_of_ble_eq_true rfl) (Nat.le_of_ble_eq_true rfl) rfl (to_rc rfl rfl rfl fO_fr_M_77_11) rfl ?_
      refine to_an (pc := 0) rw_233_0 rfl ?_
      refine to_c (pc := 1) rw_233_1 (x := (0 : Int32)) rfl rfl ?_
      refine tt_pI (pc := 2) rw_233_2 fO_fr_M_77_11 ?_
      refine to_an (pc := 5) rw_233_5 rfl ?_
      refine to_in (pc := 6) rw_233_6 rfl ?_
      refine to_v (pc := 7) rw_233_7 (hi := rfl) (ls0 := [.ref 77, .int _]) rfl (Nat.le_of_ble_eq_true rfl) (Nat.le_of_ble_eq_true rfl) rfl (to_rc rfl rfl rfl fO_fr_M_77_11) rfl ?_
      refine to_in (pc := 0) rw_186_0 rfl ?_
      refine to_iff (pc := 1) rw_186_1 (cd_no (c := .lt) (show ¬ x1.toInt < (0 : Int32).toInt from (by have e1 : (0 : Int32).toInt = 0 := rfl; omega))) ?_
      refine to_in (pc := 4) rw_186_4 rfl ?_
      refine to_an (pc := 5) rw_186_5 rfl ?_
      refine tt_gI (pc := 6) rw_186_6 fO_fr_M_77_11 (rI_n rfl fI_fr_M_77_29) ?_
      refine to_ict (pc := 9) rw_186_9 (cd_of (c := .gt) (show x1.toInt > (0 : Int32).toInt from (by have e1 : (0 : Int32).toInt = 0 := rfl; omega))) ?_
      refine to_c (pc := 16) rw_186_16 (x := (0 : Int32)) rfl rfl ?_
      refine to_r1 (pc := 17) rw_186_17 (by decide +kernel) ?_
      refine to_ift (pc := 10) rw_233_10 (by decide +kernel) ?_
      refine to_cl (pc := 30) rw_233_30 (x := (-1 : Int64)) rfl rfl ?_
      refine to_rl (pc := 33) rw_233_33 ?_
      refine to_lc (pc := 1081) rw_0_1081 (v := (0 : Int32)) (by decide +kernel) ?_
      refine to_ift (pc := 1082) rw_0_1082 (by decide +kernel) ?_
      exact op_tail (op_c fC_fr_M)
set_option maxHeartbeats 0 in
set_option maxRecDepth 4000 in
theorem op_24 {fr_M fr_1 fr_2 fr_3 fr_4 fr_5 fr_6 fr_7 fr_8 fr_9 fr_10 fr_11 fr_12 : mm_M} (HM : fr_Eq fr_M fr_1 fr_2 fr_3 fr_4 fr_5 fr_6 fr_7 fr_8 fr_9 fr_10 fr_11 fr_12) {xs : Nat → Int32} {x1 x2 x3 x4 x5 : Int32} (hx1 : xs 1 = x1) (hx2 : xs 2 = x2) (hx3 : xs 3 = x3) (hx4 : xs 4 = x4) (hx5 : xs 5 = x5) : mm_T (fr_X 6 xs) 40 0 1087 [.ref mm_ext, .ref 0, .ref 77, .ref 125, .int 0, .null, .null] [] fr_M op_Q := by
  have z0 : (0 : Int32).toInt = 0 := rfl
  have fC_fr_M := fC_fr_M HM
  have fI_fr_M_49_3 := fI_fr_M_49_3 HM
  have fI_fr_M_6_0 := fI_fr_M_6_0 HM
  have fI_fr_M_77_13 := fI_fr_M_77_13 HM
  have fI_fr_M_77_29 := fI_fr_M_77_29 HM
  have fO_fr_M_0_10 := fO_fr_M_0_10 HM
  have fO_fr_M_49_5 := fO_fr_M_49_5 HM
  have fO_fr_M_6_3 := fO_fr_M_6_3 HM
  have fO_fr_M_77_11 := fO_fr_M_77_11 HM
  have fR_fr_M_0_1 := fR_fr_M_0_1 HM
  have fR_fr_M_0_8 := fR_fr_M_0_8 HM
  refine to_an (pc := 1087) rw_0_1087 rfl ?_
  refine to_an (pc := 1088) rw_0_1088 rfl ?_
  refine to_i (pc := 1089) rw_0_1089 rfl ?_
  refine to_c (pc := 1091) rw_0_1091 (x := (1 : Int32)) rfl rfl ?_
  refine to_2 (pc := 1092) rw_0_1092 (v := (1 : Int32)) (by decide +kernel) ?_
  refine op_x (pc := 1093) rw_0_1093 (k := 1) (by decide +kernel) hx1 ?_
  refine to_an (pc := 1094) rw_0_1094 rfl ?_
  refine to_i (pc := 1095) rw_0_1095 rfl ?_
  refine to_c (pc := 1097) rw_0_1097 (x := (2 : Int32)) rfl rfl ?_
  refine to_2 (pc := 1098) rw_0_1098 (v := (2 : Int32)) (by decide +kernel) ?_
  refine op_x (pc := 1099) rw_0_1099 (k := 2) (by decide +kernel) hx2 ?_
  refine to_v (pc := 1100) rw_0_1100 (hi := rfl) (ls0 := [.ref 0, .int _, .int _, .null, .null]) rfl (Nat.le_of_ble_eq_true rfl) (Nat.le_of_ble_eq_true rfl) rfl (to_rc rfl rfl rfl fO_fr_M_0_10) rfl ?_
  refine to_an (pc := 0) rw_133_0 rfl ?_
  refine to_in (pc := 1) rw_133_1 rfl ?_
  refine to_v (pc := 2) rw_133_2 (hi := rfl) (ls0 := [.ref 0, .int _]) rfl (Nat.le_of_ble_eq_true rfl) (Nat.le_of_ble_eq_true rfl) rfl (to_rc rfl rfl rfl fO_fr_M_0_10) rfl ?_
  refine to_in (pc := 0) rw_139_0 rfl ?_
  rcases Int.lt_or_le x1.toInt (0) with h1 | h1
  · refine to_ift (pc := 1) rw_139_1 (cd_of (c := .lt) (show x1.toInt < (0 : Int32).toInt from (by have e1 : (0 : Int32).toInt = 0 := rfl; omega))) ?_
    refine to_c (pc := 19) rw_139_19 (x := (0 : Int32)) rfl rfl ?_
    refine to_r1 (pc := 20) rw_139_20 (by decide +kernel) ?_
    refine to_ift (pc := 5) rw_133_5 (by decide +kernel) ?_
    refine to_c (pc := 19) rw_133_19 (x := (-1 : Int32)) rfl rfl ?_
    refine to_r0 (pc := 20) rw_133_20 ?_
    refine to_an (pc := 1103) rw_0_1103 rfl ?_
    refine to_an (pc := 1104) rw_0_1104 rfl ?_
    refine to_i (pc := 1105) rw_0_1105 rfl ?_
    refine to_c (pc := 1107) rw_0_1107 (x := (1 : Int32)) rfl rfl ?_
    refine to_2 (pc := 1108) rw_0_1108 (v := (1 : Int32)) (by decide +kernel) ?_
    refine op_x (pc := 1109) rw_0_1109 (k := 1) (by decide +kernel) hx1 ?_
    refine to_an (pc := 1110) rw_0_1110 rfl ?_
    refine to_i (pc := 1111) rw_0_1111 rfl ?_
    refine to_c (pc := 1113) rw_0_1113 (x := (2 : Int32)) rfl rfl ?_
    refine to_2 (pc := 1114) rw_0_1114 (v := (2 : Int32)) (by decide +kernel) ?_
    refine op_x (pc := 1115) rw_0_1115 (k := 2) (by decide +kernel) hx2 ?_
    refine to_v (pc := 1116) rw_0_1116 (hi := rfl) (ls0 := [.ref 77, .int _, .int _]) rfl (Nat.le_of_ble_eq_true rfl) (Nat.le_of_ble_eq_true rfl) rfl (to_rc rfl rfl rfl fO_fr_M_77_11) rfl ?_
    refine to_an (pc := 0) rw_235_0 rfl ?_
    refine to_c (pc := 1) rw_235_1 (x := (0 : Int32)) rfl rfl ?_
    refine tt_pI (pc := 2) rw_235_2 fO_fr_M_77_11 ?_
    refine to_an (pc := 5) rw_235_5 rfl ?_
    refine to_in (pc := 6) rw_235_6 rfl ?_
    refine to_v (pc := 7) rw_235_7 (hi := rfl) (ls0 := [.ref 77, .int _]) rfl (Nat.le_of_ble_eq_true rfl) (Nat.le_of_ble_eq_true rfl) rfl (to_rc rfl rfl rfl fO_fr_M_77_11) rfl ?_
    refine to_in (pc := 0) rw_186_0 rfl ?_
    refine to_ift (pc := 1) rw_186_1 (cd_of (c := .lt) (show x1.toInt < (0 : Int32).toInt from (by have e1 : (0 : Int32).toInt = 0 := rfl; omega))) ?_
    refine to_c (pc := 16) rw_186_16 (x := (0 : Int32)) rfl rfl ?_
    refine to_r1 (pc := 17) rw_186_17 (by decide +kernel) ?_
    refine to_ift (pc := 10) rw_235_10 (by decide +kernel) ?_
    refine to_c (pc := 21) rw_235_21 (x := (-1 : Int32)) rfl rfl ?_
    refine to_r0 (pc := 22) rw_235_22 ?_
    refine to_ict (pc := 1119) rw_0_1119 (by decide +kernel) ?_
    exact op_tail (op_c fC_fr_M)
  · refine to_iff (pc := 1) rw_139_1 (cd_no (c := .lt) (show ¬ x1.toInt < (0 : Int32).toInt from (by have e1 : (0 : Int32).toInt = 0 := rfl; omega))) ?_
    refine to_in (pc := 4) rw_139_4 rfl ?_
    refine to_an (pc := 5) rw_139_5 rfl ?_
    refine tt_gR (pc := 6) rw_139_6 fO_fr_M_0_10 fR_fr_M_0_1 ?_
    refine tt_gI (pc := 9) rw_139_9 fO_fr_M_6_3 fI_fr_M_6_0 ?_
    rcases Int.lt_or_le x1.toInt (1) with h2 | h2
    · refine to_icf (pc := 12) rw_139_12 (cd_no (c := .gt) (show ¬ x1.toInt > (0 : Int32).toInt from (by have e1 : (0 : Int32).toInt = 0 := rfl; omega))) ?_
      refine to_c (pc := 15) rw_139_15 (x := (1 : Int32)) rfl rfl ?_
      refine to_go (pc := 16) rw_139_16 ?_
      refine to_r1 (pc := 20) rw_139_20 (by decide +kernel) ?_
      refine to_iff (pc := 5) rw_133_5 (by decide +kernel) ?_
      refine to_an (pc := 8) rw_133_8 rfl ?_
      refine tt_gR (pc := 9) rw_133_9 fO_fr_M_0_10 fR_fr_M_0_8 ?_
      refine to_in (pc := 12) rw_133_12 rfl ?_
      refine to_v (pc := 13) rw_133_13 (hi := rfl) (ls0 := [.ref 49, .int _]) rfl (Nat.le_of_ble_eq_true rfl) (Nat.le_of_ble_eq_true rfl) rfl (to_rc rfl rfl rfl fO_fr_M_49_5) rfl ?_
      refine to_in (pc := 0) rw_44_0 rfl ?_
      rcases Int.lt_or_le x2.toInt (0) with h3 | h3
      · refine to_ift (pc := 1) rw_44_1 (cd_of (c := .lt) (show x2.toInt < (0 : Int32).toInt from (by have e1 : (0 : Int32).toInt = 0 := rfl; omega))) ?_
        refine to_c (pc := 16) rw_44_16 (x := (0 : Int32)) rfl rfl ?_
        refine to_r1 (pc := 17) rw_44_17 (by decide +kernel) ?_
        refine to_iff (pc := 16) rw_133_16 (by decide +kernel) ?_
        refine to_c (pc := 19) rw_133_19 (x := (-1 : Int32)) rfl rfl ?_
        refine to_r0 (pc := 20) rw_133_20 ?_
        refine to_an (pc := 1103) rw_0_1103 rfl ?_
        refine to_an (pc := 1104) rw_0_1104 rfl ?_
        refine to_i (pc := 1105) rw_0_1105 rfl ?_
        refine to_c (pc := 1107) rw_0_1107 (x := (1 : Int32)) rfl rfl ?_
        refine to_2 (pc := 1108) rw_0_1108 (v := (1 : Int32)) (by decide +kernel) ?_
        refine op_x (pc := 1109) rw_0_1109 (k := 1) (by decide +kernel) hx1 ?_
        refine to_an (pc := 1110) rw_0_1110 rfl ?_
        refine to_i (pc := 1111) rw_0_1111 rfl ?_
        refine to_c (pc := 1113) rw_0_1113 (x := (2 : Int32)) rfl rfl ?_
        refine to_2 (pc := 1114) rw_0_1114 (v := (2 : Int32)) (by decide +kernel) ?_
        refine op_x (pc := 1115) rw_0_1115 (k := 2) (by decide +kernel) hx2 ?_
        refine to_v (pc := 1116) rw_0_1116 (hi := rfl) (ls0 := [.ref 77, .int _, .int _]) rfl (Nat.le_of_ble_eq_true rfl) (Nat.le_of_ble_eq_true rfl) rfl (to_rc rfl rfl rfl fO_fr_M_77_11) rfl ?_
        refine to_an (pc := 0) rw_235_0 rfl ?_
        refine to_c (pc := 1) rw_235_1 (x := (0 : Int32)) rfl rfl ?_
        refine tt_pI (pc := 2) rw_235_2 fO_fr_M_77_11 ?_
        refine to_an (pc := 5) rw_235_5 rfl ?_
        refine to_in (pc := 6) rw_235_6 rfl ?_
        refine to_v (pc := 7) rw_235_7 (hi := rfl) (ls0 := [.ref 77, .int _]) rfl (Nat.le_of_ble_eq_true rfl) (Nat.le_of_ble_eq_true rfl) rfl (to_rc rfl rfl rfl fO_fr_M_77_11) rfl ?_
        refine to_in (pc := 0) rw_186_0 rfl ?_
        refine to_iff (pc := 1) rw_186_1 (cd_no (c := .lt) (show ¬ x1.toInt < (0 : Int32).toInt from (by have e1 : (0 : Int32).toInt = 0 := rfl; omega))) ?_
        refine to_in (pc := 4) rw_186_4 rfl ?_
        refine to_an (pc := 5) rw_186_5 rfl ?_
        refine tt_gI (pc := 6) rw_186_6 fO_fr_M_77_11 (rI_n rfl fI_fr_M_77_29) ?_
        refine to_icf (pc := 9) rw_186_9 (cd_no (c := .gt) (show ¬ x1.toInt > (0 : Int32).toInt from (by have e1 : (0 : Int32).toInt = 0 := rfl; omega))) ?_
        refine to_c (pc := 12) rw_186_12 (x := (1 : Int32)) rfl rfl ?_
        refine to_go (pc := 13) rw_186_13 ?_
        refine to_r1 (pc := 17) rw_186_17 (by decide +kernel) ?_
        refine to_iff (pc := 10) rw_235_10 (by decide +kernel) ?_
        refine to_an (pc := 13) rw_235_13 rfl ?_
        refine to_in (pc := 14) rw_235_14 rfl ?_
        refine to_v (pc := 15) rw_235_15 (hi := rfl) (ls0 := [.ref 77, .int _]) rfl (Nat.le_of_ble_eq_true rfl) (Nat.le_of_ble_eq_true rfl) rfl (to_rc rfl rfl rfl fO_fr_M_77_11) rfl ?_
        refine to_in (pc := 0) rw_180_0 rfl ?_
        refine to_ift (pc := 1) rw_180_1 (cd_of (c := .lt) (show x2.toInt < (0 : Int32).toInt from (by have e1 : (0 : Int32).toInt = 0 := rfl; omega))) ?_
        refine to_c (pc := 16) rw_180_16 (x := (0 : Int32)) rfl rfl ?_
        refine to_r1 (pc := 17) rw_180_17 (by decide +kernel) ?_
        refine to_iff (pc := 18) rw_235_18 (by decide +kernel) ?_
        refine to_c (pc := 21) rw_235_21 (x := (-1 : Int32)) rfl rfl ?_
        refine to_r0 (pc := 22) rw_235_22 ?_
        refine to_ict (pc := 1119) rw_0_1119 (by decide +kernel) ?_
        exact op_tail (op_c fC_fr_M)
      · refine to_iff (pc := 1) rw_44_1 (cd_no (c := .lt) (show ¬ x2.toInt < (0 : Int32).toInt from (by have e1 : (0 : Int32).toInt = 0 := rfl; omega))) ?_
        refine to_in (pc := 4) rw_44_4 rfl ?_
        refine to_an (pc := 5) rw_44_5 rfl ?_
        refine tt_gI (pc := 6) rw_44_6 fO_fr_M_49_5 fI_fr_M_49_3 ?_
        refine to_ict (pc := 9) rw_44_9 (cd_of (c := .ge) (show x2.toInt ≥ (0 : Int32).toInt from (by have e1 : (0 : Int32).toInt = 0 := rfl; omega))) ?_
        refine to_c (pc := 16) rw_44_16 (x := (0 : Int32)) rfl rfl ?_
        refine to_r1 (pc := 17) rw_44_17 (by decide +kernel) ?_
        refine to_iff (pc := 16) rw_133_16 (by decide +kernel) ?_
        refine to_c (pc := 19) rw_133_19 (x := (-1 : Int32)) rfl rfl ?_
        refine to_r0 (pc := 20) rw_133_20 ?_
        refine to_an (pc := 1103) rw_0_1103 rfl ?_
        refine to_an (pc := 1104) rw_0_1104 rfl ?_
        refine to_i (pc := 1105) rw_0_1105 rfl ?_
        refine to_c (pc := 1107) rw_0_1107 (x := (1 : Int32)) rfl rfl ?_
        refine to_2 (pc := 1108) rw_0_1108 (v := (1 : Int32)) (by decide +kernel) ?_
        refine op_x (pc := 1109) rw_0_1109 (k := 1) (by decide +kernel) hx1 ?_
        refine to_an (pc := 1110) rw_0_1110 rfl ?_
        refine to_i (pc := 1111) rw_0_1111 rfl ?_
        refine to_c (pc := 1113) rw_0_1113 (x := (2 : Int32)) rfl rfl ?_
        refine to_2 (pc := 1114) rw_0_1114 (v := (2 : Int32)) (by decide +kernel) ?_
        refine op_x (pc := 1115) rw_0_1115 (k := 2) (by decide +kernel) hx2 ?_
        refine to_v (pc := 1116) rw_0_1116 (hi := rfl) (ls0 := [.ref 77, .int _, .int _]) rfl (Nat.le_of_ble_eq_true rfl) (Nat.le_of_ble_eq_true rfl) rfl (to_rc rfl rfl rfl fO_fr_M_77_11) rfl ?_
        refine to_an (pc := 0) rw_235_0 rfl ?_
        refine to_c (pc := 1) rw_235_1 (x := (0 : Int32)) rfl rfl ?_
        refine tt_pI (pc := 2) rw_235_2 fO_fr_M_77_11 ?_
        refine to_an (pc := 5) rw_235_5 rfl ?_
        refine to_in (pc := 6) rw_235_6 rfl ?_
        refine to_v (pc := 7) rw_235_7 (hi := rfl) (ls0 := [.ref 77, .int _]) rfl (Nat.le_of_ble_eq_true rfl) (Nat.le_of_ble_eq_true rfl) rfl (to_rc rfl rfl rfl fO_fr_M_77_11) rfl ?_
        refine to_in (pc := 0) rw_186_0 rfl ?_
        refine to_iff (pc := 1) rw_186_1 (cd_no (c := .lt) (show ¬ x1.toInt < (0 : Int32).toInt from (by have e1 : (0 : Int32).toInt = 0 := rfl; omega))) ?_
        refine to_in (pc := 4) rw_186_4 rfl ?_
        refine to_an (pc := 5) rw_186_5 rfl ?_
        refine tt_gI (pc := 6) rw_186_6 fO_fr_M_77_11 (rI_n rfl fI_fr_M_77_29) ?_
        refine to_icf (pc := 9) rw_186_9 (cd_no (c := .gt) (show ¬ x1.toInt > (0 : Int32).toInt from (by have e1 : (0 : Int32).toInt = 0 := rfl; omega))) ?_
        refine to_c (pc := 12) rw_186_12 (x := (1 : Int32)) rfl rfl ?_
        refine to_go (pc := 13) rw_186_13 ?_
        refine to_r1 (pc := 17) rw_186_17 (by decide +kernel) ?_
        refine to_iff (pc := 10) rw_235_10 (by decide +kernel) ?_
        refine to_an (pc := 13) rw_235_13 rfl ?_
        refine to_in (pc := 14) rw_235_14 rfl ?_
        refine to_v (pc := 15) rw_235_15 (hi := rfl) (ls0 := [.ref 77, .int _]) rfl (Nat.le_of_ble_eq_true rfl) (Nat.le_of_ble_eq_true rfl) rfl (to_rc rfl rfl rfl fO_fr_M_77_11) rfl ?_
        refine to_in (pc := 0) rw_180_0 rfl ?_
        refine to_iff (pc := 1) rw_180_1 (cd_no (c := .lt) (show ¬ x2.toInt < (0 : Int32).toInt from (by have e1 : (0 : Int32).toInt = 0 := rfl; omega))) ?_
        refine to_in (pc := 4) rw_180_4 rfl ?_
        refine to_an (pc := 5) rw_180_5 rfl ?_
        refine tt_gI (pc := 6) rw_180_6 fO_fr_M_77_11 (rI_n rfl fI_fr_M_77_13) ?_
        refine to_ict (pc := 9) rw_180_9 (cd_of (c := .ge) (show x2.toInt ≥ (0 : Int32).toInt from (by have e1 : (0 : Int32).toInt = 0 := rfl; omega))) ?_
        refine to_c (pc := 16) rw_180_16 (x := (0 : Int32)) rfl rfl ?_
        refine to_r1 (pc := 17) rw_180_17 (by decide +kernel) ?_
        refine to_iff (pc := 18) rw_235_18 (by decide +kernel) ?_
        refine to_c (pc := 21) rw_235_21 (x := (-1 : Int32)) rfl rfl ?_
        refine to_r0 (pc := 22) rw_235_22 ?_
        refine to_ict (pc := 1119) rw_0_1119 (by decide +kernel) ?_
        exact op_tail (op_c fC_fr_M)
    · refine to_ict (pc := 12) rw_139_12 (cd_of (c := .gt) (show x1.toInt > (0 : Int32).toInt from (by have e1 : (0 : Int32).toInt = 0 := rfl; omega))) ?_
      refine to_c (pc := 19) rw_139_19 (x := (0 : Int32)) rfl rfl ?_
      refine to_r1 (pc := 20) rw_139_20 (by decide +kernel) ?_
      refine to_ift (pc := 5) rw_133_5 (by decide +kernel) ?_
      refine to_c (pc := 19) rw_133_19 (x := (-1 : Int32)) rfl rfl ?_
      refine to_r0 (pc := 20) rw_133_20 ?_
      refine to_an (pc := 1103) rw_0_1103 rfl ?_
      refine to_an (pc := 1104) rw_0_1104 rfl ?_
      refine to_i (pc := 1105) rw_0_1105 rfl ?_
      refine to_c (pc := 1107) rw_0_1107 (x := (1 : Int32)) rfl rfl ?_
      refine to_2 (pc := 1108) rw_0_1108 (v := (1 : Int32)) (by decide +kernel) ?_
      refine op_x (pc := 1109) rw_0_1109 (k := 1) (by decide +kernel) hx1 ?_
      refine to_an (pc := 1110) rw_0_1110 rfl ?_
      refine to_i (pc := 1111) rw_0_1111 rfl ?_
      refine to_c (pc := 1113) rw_0_1113 (x := (2 : Int32)) rfl rfl ?_
      refine to_2 (pc := 1114) rw_0_1114 (v := (2 : Int32)) (by decide +kernel) ?_
      refine op_x (pc := 1115) rw_0_1115 (k := 2) (by decide +kernel) hx2 ?_
      refine to_v (pc := 1116) rw_0_1116 (hi := rfl) (ls0 := [.ref 77, .int _, .int _]) rfl (Nat.le_of_ble_eq_true rfl) (Nat.le_of_ble_eq_true rfl) rfl (to_rc rfl rfl rfl fO_fr_M_77_11) rfl ?_
      refine to_an (pc := 0) rw_235_0 rfl ?_
      refine to_c (pc := 1) rw_235_1 (x := (0 : Int32)) rfl rfl ?_
      refine tt_pI (pc := 2) rw_235_2 fO_fr_M_77_11 ?_
      refine to_an (pc := 5) rw_235_5 rfl ?_
      refine to_in (pc := 6) rw_235_6 rfl ?_
      refine to_v (pc := 7) rw_235_7 (hi := rfl) (ls0 := [.ref 77, .int _]) rfl (Nat.le_of_ble_eq_true rfl) (Nat.le_of_ble_eq_true rfl) rfl (to_rc rfl rfl rfl fO_fr_M_77_11) rfl ?_
      refine to_in (pc := 0) rw_186_0 rfl ?_
      refine to_iff (pc := 1) rw_186_1 (cd_no (c := .lt) (show ¬ x1.toInt < (0 : Int32).toInt from (by have e1 : (0 : Int32).toInt = 0 := rfl; omega))) ?_
      refine to_in (pc := 4) rw_186_4 rfl ?_
      refine to_an (pc := 5) rw_186_5 rfl ?_
      refine tt_gI (pc := 6) rw_186_6 fO_fr_M_77_11 (rI_n rfl fI_fr_M_77_29) ?_
      refine to_ict (pc := 9) rw_186_9 (cd_of (c := .gt) (show x1.toInt > (0 : Int32).toInt from (by have e1 : (0 : Int32).toInt = 0 := rfl; omega))) ?_
      refine to_c (pc := 16) rw_186_16 (x := (0 : Int32)) rfl rfl ?_
      refine to_r1 (pc := 17) rw_186_17 (by decide +kernel) ?_
      refine to_ift (pc := 10) rw_235_10 (by decide +kernel) ?_
      refine to_c (pc := 21) rw_235_21 (x := (-1 : Int32)) rfl rfl ?_
      refine to_r0 (pc := 22) rw_235_22 ?_
      refine to_ict (pc := 1119) rw_0_1119 (by decide +kernel) ?_
      exact op_tail (op_c fC_fr_M)
set_option maxHeartbeats 0 in
set_option maxRecDepth 4000 in
theorem op_25 {fr_M fr_1 fr_2 fr_3 fr_4 fr_5 fr_6 fr_7 fr_8 fr_9 fr_10 fr_11 fr_12 : mm_M} (HM : fr_Eq fr_M fr_1 fr_2 fr_3 fr_4 fr_5 fr_6 fr_7 fr_8 fr_9 fr_10 fr_11 fr_12) {xs : Nat → Int32} {x1 x2 x3 x4 x5 : Int32} (hx1 : xs 1 = x1) (hx2 : xs 2 = x2) (hx3 : xs 3 = x3) (hx4 : xs 4 = x4) (hx5 : xs 5 = x5) : mm_T (fr_X 6 xs) 40 0 1124 [.ref mm_ext, .ref 0, .ref 77, .ref 125, .int 0, .null, .null] [] fr_M op_Q := by
  have z0 : (0 : Int32).toInt = 0 := rfl
  have fC_fr_M := fC_fr_M HM
  have fI_fr_M_49_3 := fI_fr_M_49_3 HM
  have fI_fr_M_6_0 := fI_fr_M_6_0 HM
  have fI_fr_M_77_13 := fI_fr_M_77_13 HM
  have fI_fr_M_77_29 := fI_fr_M_77_29 HM
  have fO_fr_M_0_10 := fO_fr_M_0_10 HM
  have fO_fr_M_49_5 := fO_fr_M_49_5 HM
  have fO_fr_M_6_3 := fO_fr_M_6_3 HM
  have fO_fr_M_77_11 := fO_fr_M_77_11 HM
  have fR_fr_M_0_1 := fR_fr_M_0_1 HM
  have fR_fr_M_0_8 := fR_fr_M_0_8 HM
  refine to_an (pc := 1124) rw_0_1124 rfl ?_
  refine to_an (pc := 1125) rw_0_1125 rfl ?_
  refine to_i (pc := 1126) rw_0_1126 rfl ?_
  refine to_c (pc := 1128) rw_0_1128 (x := (1 : Int32)) rfl rfl ?_
  refine to_2 (pc := 1129) rw_0_1129 (v := (1 : Int32)) (by decide +kernel) ?_
  refine op_x (pc := 1130) rw_0_1130 (k := 1) (by decide +kernel) hx1 ?_
  refine to_an (pc := 1131) rw_0_1131 rfl ?_
  refine to_i (pc := 1132) rw_0_1132 rfl ?_
  refine to_c (pc := 1134) rw_0_1134 (x := (2 : Int32)) rfl rfl ?_
  refine to_2 (pc := 1135) rw_0_1135 (v := (2 : Int32)) (by decide +kernel) ?_
  refine op_x (pc := 1136) rw_0_1136 (k := 2) (by decide +kernel) hx2 ?_
  refine to_v (pc := 1137) rw_0_1137 (hi := rfl) (ls0 := [.ref 0, .int _, .int _]) rfl (Nat.le_of_ble_eq_true rfl) (Nat.le_of_ble_eq_true rfl) rfl (to_rc rfl rfl rfl fO_fr_M_0_10) rfl ?_
  refine to_an (pc := 0) rw_134_0 rfl ?_
  refine to_in (pc := 1) rw_134_1 rfl ?_
  refine to_v (pc := 2) rw_134_2 (hi := rfl) (ls0 := [.ref 0, .int _]) rfl (Nat.le_of_ble_eq_true rfl) (Nat.le_of_ble_eq_true rfl) rfl (to_rc rfl rfl rfl fO_fr_M_0_10) rfl ?_
  refine to_in (pc := 0) rw_139_0 rfl ?_
  rcases Int.lt_or_le x1.toInt (0) with h1 | h1
  · refine to_ift (pc := 1) rw_139_1 (cd_of (c := .lt) (show x1.toInt < (0 : Int32).toInt from (by have e1 : (0 : Int32).toInt = 0 := rfl; omega))) ?_
    refine to_c (pc := 19) rw_139_19 (x := (0 : Int32)) rfl rfl ?_
    refine to_r1 (pc := 20) rw_139_20 (by decide +kernel) ?_
    refine to_ift (pc := 5) rw_134_5 (by decide +kernel) ?_
    refine to_c (pc := 19) rw_134_19 (x := (-1 : Int32)) rfl rfl ?_
    refine to_r0 (pc := 20) rw_134_20 ?_
    refine to_an (pc := 1140) rw_0_1140 rfl ?_
    refine to_an (pc := 1141) rw_0_1141 rfl ?_
    refine to_i (pc := 1142) rw_0_1142 rfl ?_
    refine to_c (pc := 1144) rw_0_1144 (x := (1 : Int32)) rfl rfl ?_
    refine to_2 (pc := 1145) rw_0_1145 (v := (1 : Int32)) (by decide +kernel) ?_
    refine op_x (pc := 1146) rw_0_1146 (k := 1) (by decide +kernel) hx1 ?_
    refine to_an (pc := 1147) rw_0_1147 rfl ?_
    refine to_i (pc := 1148) rw_0_1148 rfl ?_
    refine to_c (pc := 1150) rw_0_1150 (x := (2 : Int32)) rfl rfl ?_
    refine to_2 (pc := 1151) rw_0_1151 (v := (2 : Int32)) (by decide +kernel) ?_
    refine op_x (pc := 1152) rw_0_1152 (k := 2) (by decide +kernel) hx2 ?_
    refine to_v (pc := 1153) rw_0_1153 (hi := rfl) (ls0 := [.ref 77, .int _, .int _, .null, .null, .null, .null, .null, .null, .null, .null, .null, .null, .null]) rfl (Nat.le_of_ble_eq_true rfl) (Nat.le_of_ble_eq_true rfl) rfl (to_rc rfl rfl rfl fO_fr_M_77_11) rfl ?_
    refine to_an (pc := 0) rw_237_0 rfl ?_
    refine to_c (pc := 1) rw_237_1 (x := (0 : Int32)) rfl rfl ?_
    refine tt_pI (pc := 2) rw_237_2 fO_fr_M_77_11 ?_
    refine to_an (pc := 5) rw_237_5 rfl ?_
    refine to_in (pc := 6) rw_237_6 rfl ?_
    refine to_v (pc := 7) rw_237_7 (hi := rfl) (ls0 := [.ref 77, .int _]) rfl (Nat.le_of_ble_eq_true rfl) (Nat.le_of_ble_eq_true rfl) rfl (to_rc rfl rfl rfl fO_fr_M_77_11) rfl ?_
    refine to_in (pc := 0) rw_186_0 rfl ?_
    refine to_ift (pc := 1) rw_186_1 (cd_of (c := .lt) (show x1.toInt < (0 : Int32).toInt from (by have e1 : (0 : Int32).toInt = 0 := rfl; omega))) ?_
    refine to_c (pc := 16) rw_186_16 (x := (0 : Int32)) rfl rfl ?_
    refine to_r1 (pc := 17) rw_186_17 (by decide +kernel) ?_
    refine to_ift (pc := 10) rw_237_10 (by decide +kernel) ?_
    refine to_c (pc := 21) rw_237_21 (x := (-1 : Int32)) rfl rfl ?_
    refine to_r0 (pc := 22) rw_237_22 ?_
    refine to_ict (pc := 1156) rw_0_1156 (by decide +kernel) ?_
    exact op_tail (op_c fC_fr_M)
  · refine to_iff (pc := 1) rw_139_1 (cd_no (c := .lt) (show ¬ x1.toInt < (0 : Int32).toInt from (by have e1 : (0 : Int32).toInt = 0 := rfl; omega))) ?_
    refine to_in (pc := 4) rw_139_4 rfl ?_
    refine to_an (pc := 5) rw_139_5 rfl ?_
    refine tt_gR (pc := 6) rw_139_6 fO_fr_M_0_10 fR_fr_M_0_1 ?_
    refine tt_gI (pc := 9) rw_139_9 fO_fr_M_6_3 fI_fr_M_6_0 ?_
    rcases Int.lt_or_le x1.toInt (1) with h2 | h2
    · refine to_icf (pc := 12) rw_139_12 (cd_no (c := .gt) (show ¬ x1.toInt > (0 : Int32).toInt from (by have e1 : (0 : Int32).toInt = 0 := rfl; omega))) ?_
      refine to_c (pc := 15) rw_139_15 (x := (1 : Int32)) rfl rfl ?_
      refine to_go (pc := 16) rw_139_16 ?_
      refine to_r1 (pc := 20) rw_139_20 (by decide +kernel) ?_
      refine to_iff (pc := 5) rw_134_5 (by decide +kernel) ?_
      refine to_an (pc := 8) rw_134_8 rfl ?_
      refine tt_gR (pc := 9) rw_134_9 fO_fr_M_0_10 fR_fr_M_0_8 ?_
      refine to_in (pc := 12) rw_134_12 rfl ?_
      refine to_v (pc := 13) rw_134_13 (hi := rfl) (ls0 := [.ref 49, .int _]) rfl (Nat.le_of_ble_eq_true rfl) (Nat.le_of_ble_eq_true rfl) rfl (to_rc rfl rfl rfl fO_fr_M_49_5) rfl ?_
      refine to_in (pc := 0) rw_44_0 rfl ?_
      rcases Int.lt_or_le x2.toInt (0) with h3 | h3
      · refine to_ift (pc := 1) rw_44_1 (cd_of (c := .lt) (show x2.toInt < (0 : Int32).toInt from (by have e1 : (0 : Int32).toInt = 0 := rfl; omega))) ?_
        refine to_c (pc := 16) rw_44_16 (x := (0 : Int32)) rfl rfl ?_
        refine to_r1 (pc := 17) rw_44_17 (by decide +kernel) ?_
        refine to_iff (pc := 16) rw_134_16 (by decide +kernel) ?_
        refine to_c (pc := 19) rw_134_19 (x := (-1 : Int32)) rfl rfl ?_
        refine to_r0 (pc := 20) rw_134_20 ?_
        refine to_an (pc := 1140) rw_0_1140 rfl ?_
        refine to_an (pc := 1141) rw_0_1141 rfl ?_
        refine to_i (pc := 1142) rw_0_1142 rfl ?_
        refine to_c (pc := 1144) rw_0_1144 (x := (1 : Int32)) rfl rfl ?_
        refine to_2 (pc := 1145) rw_0_1145 (v := (1 : Int32)) (by decide +kernel) ?_
        refine op_x (pc := 1146) rw_0_1146 (k := 1) (by decide +kernel) hx1 ?_
        refine to_an (pc := 1147) rw_0_1147 rfl ?_
        refine to_i (pc := 1148) rw_0_1148 rfl ?_
        refine to_c (pc := 1150) rw_0_1150 (x := (2 : Int32)) rfl rfl ?_
        refine to_2 (pc := 1151) rw_0_1151 (v := (2 : Int32)) (by decide +kernel) ?_
        refine op_x (pc := 1152) rw_0_1152 (k := 2) (by decide +kernel) hx2 ?_
        refine to_v (pc := 1153) rw_0_1153 (hi := rfl) (ls0 := [.ref 77, .int _, .int _, .null, .null, .null, .null, .null, .null, .null, .null, .null, .null, .null]) rfl (Nat.le_of_ble_eq_true rfl) (Nat.le_of_ble_eq_true rfl) rfl (to_rc rfl rfl rfl fO_fr_M_77_11) rfl ?_
        refine to_an (pc := 0) rw_237_0 rfl ?_
        refine to_c (pc := 1) rw_237_1 (x := (0 : Int32)) rfl rfl ?_
        refine tt_pI (pc := 2) rw_237_2 fO_fr_M_77_11 ?_
        refine to_an (pc := 5) rw_237_5 rfl ?_
        refine to_in (pc := 6) rw_237_6 rfl ?_
        refine to_v (pc := 7) rw_237_7 (hi := rfl) (ls0 := [.ref 77, .int _]) rfl (Nat.le_of_ble_eq_true rfl) (Nat.le_of_ble_eq_true rfl) rfl (to_rc rfl rfl rfl fO_fr_M_77_11) rfl ?_
        refine to_in (pc := 0) rw_186_0 rfl ?_
        refine to_iff (pc := 1) rw_186_1 (cd_no (c := .lt) (show ¬ x1.toInt < (0 : Int32).toInt from (by have e1 : (0 : Int32).toInt = 0 := rfl; omega))) ?_
        refine to_in (pc := 4) rw_186_4 rfl ?_
        refine to_an (pc := 5) rw_186_5 rfl ?_
        refine tt_gI (pc := 6) rw_186_6 fO_fr_M_77_11 (rI_n rfl fI_fr_M_77_29) ?_
        refine to_icf (pc := 9) rw_186_9 (cd_no (c := .gt) (show ¬ x1.toInt > (0 : Int32).toInt from (by have e1 : (0 : Int32).toInt = 0 := rfl; omega))) ?_
        refine to_c (pc := 12) rw_186_12 (x := (1 : Int32)) rfl rfl ?_
        refine to_go (pc := 13) rw_186_13 ?_
        refine to_r1 (pc := 17) rw_186_17 (by decide +kernel) ?_
        refine to_iff (pc := 10) rw_237_10 (by decide +kernel) ?_
        refine to_an (pc := 13) rw_237_13 rfl ?_
        refine to_in (pc := 14) rw_237_14 rfl ?_
        refine to_v (pc := 15) rw_237_15 (hi := rfl) (ls0 := [.ref 77, .int _]) rfl (Nat.le_of_ble_eq_true rfl) (Nat.le_of_ble_eq_true rfl) rfl (to_rc rfl rfl rfl fO_fr_M_77_11) rfl ?_
        refine to_in (pc := 0) rw_180_0 rfl ?_
        refine to_ift (pc := 1) rw_180_1 (cd_of (c := .lt) (show x2.toInt < (0 : Int32).toInt from (by have e1 : (0 : Int32).toInt = 0 := rfl; omega))) ?_
        refine to_c (pc := 16) rw_180_16 (x := (0 : Int32)) rfl rfl ?_
        refine to_r1 (pc := 17) rw_180_17 (by decide +kernel) ?_
        refine to_iff (pc := 18) rw_237_18 (by decide +kernel) ?_
        refine to_c (pc := 21) rw_237_21 (x := (-1 : Int32)) rfl rfl ?_
        refine to_r0 (pc := 22) rw_237_22 ?_
        refine to_ict (pc := 1156) rw_0_1156 (by decide +kernel) ?_
        exact op_tail (op_c fC_fr_M)
      · refine to_iff (pc := 1) rw_44_1 (cd_no (c := .lt) (show ¬ x2.toInt < (0 : Int32).toInt from (by have e1 : (0 : Int32).toInt = 0 := rfl; omega))) ?_
        refine to_in (pc := 4) rw_44_4 rfl ?_
        refine to_an (pc := 5) rw_44_5 rfl ?_
        refine tt_gI (pc := 6) rw_44_6 fO_fr_M_49_5 fI_fr_M_49_3 ?_
        refine to_ict (pc := 9) rw_44_9 (cd_of (c := .ge) (show x2.toInt ≥ (0 : Int32).toInt from (by have e1 : (0 : Int32).toInt = 0 := rfl; omega))) ?_
        refine to_c (pc := 16) rw_44_16 (x := (0 : Int32)) rfl rfl ?_
        refine to_r1 (pc := 17) rw_44_17 (by decide +kernel) ?_
        refine to_iff (pc := 16) rw_134_16 (by decide +kernel) ?_
        refine to_c (pc := 19) rw_134_19 (x := (-1 : Int32)) rfl rfl ?_
        refine to_r0 (pc := 20) rw_134_20 ?_
        refine to_an (pc := 1140) rw_0_1140 rfl ?_
        refine to_an (pc := 1141) rw_0_1141 rfl ?_
        refine to_i (pc := 1142) rw_0_1142 rfl ?_
        refine to_c (pc := 1144) rw_0_1144 (x := (1 : Int32)) rfl rfl ?_
        refine to_2 (pc := 1145) rw_0_1145 (v := (1 : Int32)) (by decide +kernel) ?_
        refine op_x (pc := 1146) rw_0_1146 (k := 1) (by decide +kernel) hx1 ?_
        refine to_an (pc := 1147) rw_0_1147 rfl ?_
        refine to_i (pc := 1148) rw_0_1148 rfl ?_
        refine to_c (pc := 1150) rw_0_1150 (x := (2 : Int32)) rfl rfl ?_
        refine to_2 (pc := 1151) rw_0_1151 (v := (2 : Int32)) (by decide +kernel) ?_
        refine op_x (pc := 1152) rw_0_1152 (k := 2) (by decide +kernel) hx2 ?_
        refine to_v (pc := 1153) rw_0_1153 (hi := rfl) (ls0 := [.ref 77, .int _, .int _, .null, .null, .null, .null, .null, .null, .null, .null, .null, .null, .null]) rfl (Nat.le_of_ble_eq_true rfl) (Nat.le_of_ble_eq_true rfl) rfl (to_rc rfl rfl rfl fO_fr_M_77_11) rfl ?_
        refine to_an (pc := 0) rw_237_0 rfl ?_
        refine to_c (pc := 1) rw_237_1 (x := (0 : Int32)) rfl rfl ?_
        refine tt_pI (pc := 2) rw_237_2 fO_fr_M_77_11 ?_
        refine to_an (pc := 5) rw_237_5 rfl ?_
        refine to_in (pc := 6) rw_237_6 rfl ?_
        refine to_v (pc := 7) rw_237_7 (hi := rfl) (ls0 := [.ref 77, .int _]) rfl (Nat.le_of_ble_eq_true rfl) (Nat.le_of_ble_eq_true rfl) rfl (to_rc rfl rfl rfl fO_fr_M_77_11) rfl ?_
        refine to_in (pc := 0) rw_186_0 rfl ?_
        refine to_iff (pc := 1) rw_186_1 (cd_no (c := .lt) (show ¬ x1.toInt < (0 : Int32).toInt from (by have e1 : (0 : Int32).toInt = 0 := rfl; omega))) ?_
        refine to_in (pc := 4) rw_186_4 rfl ?_
        refine to_an (pc := 5) rw_186_5 rfl ?_
        refine tt_gI (pc := 6) rw_186_6 fO_fr_M_77_11 (rI_n rfl fI_fr_M_77_29) ?_
        refine to_icf (pc := 9) rw_186_9 (cd_no (c := .gt) (show ¬ x1.toInt > (0 : Int32).toInt from (by have e1 : (0 : Int32).toInt = 0 := rfl; omega))) ?_
        refine to_c (pc := 12) rw_186_12 (x := (1 : Int32)) rfl rfl ?_
        refine to_go (pc := 13) rw_186_13 ?_
        refine to_r1 (pc := 17) rw_186_17 (by decide +kernel) ?_
        refine to_iff (pc := 10) rw_237_10 (by decide +kernel) ?_
        refine to_an (pc := 13) rw_237_13 rfl ?_
        refine to_in (pc := 14) rw_237_14 rfl ?_
        refine to_v (pc := 15) rw_237_15 (hi := rfl) (ls0 := [.ref 77, .int _]) rfl (Nat.le_of_ble_eq_true rfl) (Nat.le_of_ble_eq_true rfl) rfl (to_rc rfl rfl rfl fO_fr_M_77_11) rfl ?_
        refine to_in (pc := 0) rw_180_0 rfl ?_
        refine to_iff (pc := 1) rw_180_1 (cd_no (c := .lt) (show ¬ x2.toInt < (0 : Int32).toInt from (by have e1 : (0 : Int32).toInt = 0 := rfl; omega))) ?_
        refine to_in (pc := 4) rw_180_4 rfl ?_
        refine to_an (pc := 5) rw_180_5 rfl ?_
        refine tt_gI (pc := 6) rw_180_6 fO_fr_M_77_11 (rI_n rfl fI_fr_M_77_13) ?_
        refine to_ict (pc := 9) rw_180_9 (cd_of (c := .ge) (show x2.toInt ≥ (0 : Int32).toInt from (by have e1 : (0 : Int32).toInt = 0 := rfl; omega))) ?_
        refine to_c (pc := 16) rw_180_16 (x := (0 : Int32)) rfl rfl ?_
        refine to_r1 (pc := 17) rw_180_17 (by decide +kernel) ?_
        refine to_iff (pc := 18) rw_237_18 (by decide +kernel) ?_
        refine to_c (pc := 21) rw_237_21 (x := (-1 : Int32)) rfl rfl ?_
        refine to_r0 (pc := 22) rw_237_22 ?_
        refine to_ict (pc := 1156) rw_0_1156 (by decide +kernel) ?_
        exact op_tail (op_c fC_fr_M)
    · refine to_ict (pc := 12) rw_139_12 (cd_of (c := .gt) (show x1.toInt > (0 : Int32).toInt from (by have e1 : (0 : Int32).toInt = 0 := rfl; omega))) ?_
      refine to_c (pc := 19) rw_139_19 (x := (0 : Int32)) rfl rfl ?_
      refine to_r1 (pc := 20) rw_139_20 (by decide +kernel) ?_
      refine to_ift (pc := 5) rw_134_5 (by decide +kernel) ?_
      refine to_c (pc := 19) rw_134_19 (x := (-1 : Int32)) rfl rfl ?_
      refine to_r0 (pc := 20) rw_134_20 ?_
      refine to_an (pc := 1140) rw_0_1140 rfl ?_
      refine to_an (pc := 1141) rw_0_1141 rfl ?_
      refine to_i (pc := 1142) rw_0_1142 rfl ?_
      refine to_c (pc := 1144) rw_0_1144 (x := (1 : Int32)) rfl rfl ?_
      refine to_2 (pc := 1145) rw_0_1145 (v := (1 : Int32)) (by decide +kernel) ?_
      refine op_x (pc := 1146) rw_0_1146 (k := 1) (by decide +kernel) hx1 ?_
      refine to_an (pc := 1147) rw_0_1147 rfl ?_
      refine to_i (pc := 1148) rw_0_1148 rfl ?_
      refine to_c (pc := 1150) rw_0_1150 (x := (2 : Int32)) rfl rfl ?_
      refine to_2 (pc := 1151) rw_0_1151 (v := (2 : Int32)) (by decide +kernel) ?_
      refine op_x (pc := 1152) rw_0_1152 (k := 2) (by decide +kernel) hx2 ?_
      refine to_v (pc := 1153) rw_0_1153 (hi := rfl) (ls0 := [.ref 77, .int _, .int _, .null, .null, .null, .null, .null, .null, .null, .null, .null, .null, .null]) rfl (Nat.le_of_ble_eq_true rfl) (Nat.le_of_ble_eq_true rfl) rfl (to_rc rfl rfl rfl fO_fr_M_77_11) rfl ?_
      refine to_an (pc := 0) rw_237_0 rfl ?_
      refine to_c (pc := 1) rw_237_1 (x := (0 : Int32)) rfl rfl ?_
      refine tt_pI (pc := 2) rw_237_2 fO_fr_M_77_11 ?_
      refine to_an (pc := 5) rw_237_5 rfl ?_
      refine to_in (pc := 6) rw_237_6 rfl ?_
      refine to_v (pc := 7) rw_237_7 (hi := rfl) (ls0 := [.ref 77, .int _]) rfl (Nat.le_of_ble_eq_true rfl) (Nat.le_of_ble_eq_true rfl) rfl (to_rc rfl rfl rfl fO_fr_M_77_11) rfl ?_
      refine to_in (pc := 0) rw_186_0 rfl ?_
      refine to_iff (pc := 1) rw_186_1 (cd_no (c := .lt) (show ¬ x1.toInt < (0 : Int32).toInt from (by have e1 : (0 : Int32).toInt = 0 := rfl; omega))) ?_
      refine to_in (pc := 4) rw_186_4 rfl ?_
      refine to_an (pc := 5) rw_186_5 rfl ?_
      refine tt_gI (pc := 6) rw_186_6 fO_fr_M_77_11 (rI_n rfl fI_fr_M_77_29) ?_
      refine to_ict (pc := 9) rw_186_9 (cd_of (c := .gt) (show x1.toInt > (0 : Int32).toInt from (by have e1 : (0 : Int32).toInt = 0 := rfl; omega))) ?_
      refine to_c (pc := 16) rw_186_16 (x := (0 : Int32)) rfl rfl ?_
      refine to_r1 (pc := 17) rw_186_17 (by decide +kernel) ?_
      refine to_ift (pc := 10) rw_237_10 (by decide +kernel) ?_
      refine to_c (pc := 21) rw_237_21 (x := (-1 : Int32)) rfl rfl ?_
      refine to_r0 (pc := 22) rw_237_22 ?_
      refine to_ict (pc := 1156) rw_0_1156 (by decide +kernel) ?_
      exact op_tail (op_c fC_fr_M)
set_option maxHeartbeats 0 in
set_option maxRecDepth 4000 in
theorem op_26 {fr_M fr_1 fr_2 fr_3 fr_4 fr_5 fr_6 fr_7 fr_8 fr_9 fr_10 fr_11 fr_12 : mm_M} (HM : fr_Eq fr_M fr_1 fr_2 fr_3 fr_4 fr_5 fr_6 fr_7 fr_8 fr_9 fr_10 fr_11 fr_12) {xs : Nat → Int32} {x1 x2 x3 x4 x5 : Int32} (hx1 : xs 1 = x1) (hx2 : xs 2 = x2) (hx3 : xs 3 = x3) (hx4 : xs 4 = x4) (hx5 : xs 5 = x5) : mm_T (fr_X 6 xs) 40 0 1161 [.ref mm_ext, .ref 0, .ref 77, .ref 125, .int 0, .null, .null] [] fr_M op_Q := by
  have z0 : (0 : Int32).toInt = 0 := rfl
  have fC_fr_M := fC_fr_M HM
  have fI_fr_M_0_12 := fI_fr_M_0_12 HM
  have fI_fr_M_6_0 := fI_fr_M_6_0 HM
  have fI_fr_M_77_28 := fI_fr_M_77_28 HM
  have fI_fr_M_77_29 := fI_fr_M_77_29 HM
  have fO_fr_M_0_10 := fO_fr_M_0_10 HM
  have fO_fr_M_6_3 := fO_fr_M_6_3 HM
  have fO_fr_M_77_11 := fO_fr_M_77_11 HM
  have fR_fr_M_0_1 := fR_fr_M_0_1 HM
  refine to_an (pc := 1161) rw_0_1161 rfl ?_
  refine to_an (pc := 1162) rw_0_1162 rfl ?_
  refine to_i (pc := 1163) rw_0_1163 rfl ?_
  refine to_c (pc := 1165) rw_0_1165 (x := (1 : Int32)) rfl rfl ?_
  refine to_2 (pc := 1166) rw_0_1166 (v := (1 : Int32)) (by decide +kernel) ?_
  refine op_x (pc := 1167) rw_0_1167 (k := 1) (by decide +kernel) hx1 ?_
  refine to_an (pc := 1168) rw_0_1168 rfl ?_
  refine to_i (pc := 1169) rw_0_1169 rfl ?_
  refine to_c (pc := 1171) rw_0_1171 (x := (2 : Int32)) rfl rfl ?_
  refine to_2 (pc := 1172) rw_0_1172 (v := (2 : Int32)) (by decide +kernel) ?_
  refine op_x (pc := 1173) rw_0_1173 (k := 2) (by decide +kernel) hx2 ?_
  refine to_an (pc := 1174) rw_0_1174 rfl ?_
  refine to_i (pc := 1175) rw_0_1175 rfl ?_
  refine to_c (pc := 1177) rw_0_1177 (x := (3 : Int32)) rfl rfl ?_
  refine to_2 (pc := 1178) rw_0_1178 (v := (3 : Int32)) (by decide +kernel) ?_
  refine op_x (pc := 1179) rw_0_1179 (k := 3) (by decide +kernel) hx3 ?_
  refine to_an (pc := 1180) rw_0_1180 rfl ?_
  refine to_i (pc := 1181) rw_0_1181 rfl ?_
  refine to_c (pc := 1183) rw_0_1183 (x := (4 : Int32)) rfl rfl ?_
  refine to_2 (pc := 1184) rw_0_1184 (v := (4 : Int32)) (by decide +kernel) ?_
  refine op_x (pc := 1185) rw_0_1185 (k := 4) (by decide +kernel) hx4 ?_
  refine to_an (pc := 1186) rw_0_1186 rfl ?_
  refine to_i (pc := 1187) rw_0_1187 rfl ?_
  refine to_c (pc := 1189) rw_0_1189 (x := (5 : Int32)) rfl rfl ?_
  refine to_2 (pc := 1190) rw_0_1190 (v := (5 : Int32)) (by decide +kernel) ?_
  refine op_x (pc := 1191) rw_0_1191 (k := 5) (by decide +kernel) hx5 ?_
  refine to_v (pc := 1192) rw_0_1192 (hi := rfl) (ls0 := [.ref 0, .int _, .int _, .int _, .int _, .int _]) rfl (Nat.le_of_ble_eq_true rfl) (Nat.le_of_ble_eq_true rfl) rfl (to_rc rfl rfl rfl fO_fr_M_0_10) rfl ?_
  refine to_an (pc := 0) rw_135_0 rfl ?_
  refine to_in (pc := 1) rw_135_1 rfl ?_
  refine to_v (pc := 2) rw_135_2 (hi := rfl) (ls0 := [.ref 0, .int _]) rfl (Nat.le_of_ble_eq_true rfl) (Nat.le_of_ble_eq_true rfl) rfl (to_rc rfl rfl rfl fO_fr_M_0_10) rfl ?_
  refine to_in (pc := 0) rw_139_0 rfl ?_
  rcases Int.lt_or_le x1.toInt (0) with h1 | h1
  · refine to_ift (pc := 1) rw_139_1 (cd_of (c := .lt) (show x1.toInt < (0 : Int32).toInt from (by have e1 : (0 : Int32).toInt = 0 := rfl; omega))) ?_
    refine to_c (pc := 19) rw_139_19 (x := (0 : Int32)) rfl rfl ?_
    refine to_r1 (pc := 20) rw_139_20 (by decide +kernel) ?_
    refine to_ift (pc := 5) rw_135_5 (by decide +kernel) ?_
    refine to_c (pc := 27) rw_135_27 (x := (-2 : Int32)) rfl rfl ?_
    refine to_r0 (pc := 29) rw_135_29 ?_
    refine to_an (pc := 1195) rw_0_1195 rfl ?_
    refine to_an (pc := 1196) rw_0_1196 rfl ?_
    refine to_i (pc := 1197) rw_0_1197 rfl ?_
    refine to_c (pc := 1199) rw_0_1199 (x := (1 : Int32)) rfl rfl ?_
    refine to_2 (pc := 1200) rw_0_1200 (v := (1 : Int32)) (by decide +kernel) ?_
    refine op_x (pc := 1201) rw_0_1201 (k := 1) (by decide +kernel) hx1 ?_
    refine to_an (pc := 1202) rw_0_1202 rfl ?_
    refine to_i (pc := 1203) rw_0_1203 rfl ?_
    refine to_c (pc := 1205) rw_0_1205 (x := (2 : Int32)) rfl rfl ?_
    refine to_2 (pc := 1206) rw_0_1206 (v := (2 : Int32)) (by decide +kernel) ?_
    refine op_x (pc := 1207) rw_0_1207 (k := 2) (by decide +kernel) hx2 ?_
    refine to_an (pc := 1208) rw_0_1208 rfl ?_
    refine to_i (pc := 1209) rw_0_1209 rfl ?_
    refine to_c (pc := 1211) rw_0_1211 (x := (3 : Int32)) rfl rfl ?_
    refine to_2 (pc := 1212) rw_0_1212 (v := (3 : Int32)) (by decide +kernel) ?_
    refine op_x (pc := 1213) rw_0_1213 (k := 3) (by decide +kernel) hx3 ?_
    refine to_an (pc := 1214) rw_0_1214 rfl ?_
    refine to_i (pc := 1215) rw_0_1215 rfl ?_
    refine to_c (pc := 1217) rw_0_1217 (x := (4 : Int32)) rfl rfl ?_
    refine to_2 (pc := 1218) rw_0_1218 (v := (4 : Int32)) (by decide +kernel) ?_
    refine op_x (pc := 1219) rw_0_1219 (k := 4) (by decide +kernel) hx4 ?_
    refine to_an (pc := 1220) rw_0_1220 rfl ?_
    refine to_i (pc := 1221) rw_0_1221 rfl ?_
    refine to_c (pc := 1223) rw_0_1223 (x := (5 : Int32)) rfl rfl ?_
    refine to_2 (pc := 1224) rw_0_1224 (v := (5 : Int32)) (by decide +kernel) ?_
    refine op_x (pc := 1225) rw_0_1225 (k := 5) (by decide +kernel) hx5 ?_
    refine to_v (pc := 1226) rw_0_1226 (hi := rfl) (ls0 := [.ref 77, .int _, .int _, .int _, .int _, .int _]) rfl (Nat.le_of_ble_eq_true rfl) (Nat.le_of_ble_eq_true rfl) rfl (to_rc rfl rfl rfl fO_fr_M_77_11) rfl ?_
    refine to_an (pc := 0) rw_238_0 rfl ?_
    refine to_c (pc := 1) rw_238_1 (x := (0 : Int32)) rfl rfl ?_
    refine tt_pI (pc := 2) rw_238_2 fO_fr_M_77_11 ?_
    refine to_an (pc := 5) rw_238_5 rfl ?_
    refine to_in (pc := 6) rw_238_6 rfl ?_
    refine to_v (pc := 7) rw_238_7 (hi := rfl) (ls0 := [.ref 77, .int _]) rfl (Nat.le_of_ble_eq_true rfl) (Nat.le_of_ble_eq_true rfl) rfl (to_rc rfl rfl rfl fO_fr_M_77_11) rfl ?_
    refine to_in (pc := 0) rw_186_0 rfl ?_
    refine to_ift (pc := 1) rw_186_1 (cd_of (c := .lt) (show x1.toInt < (0 : Int32).toInt from (by have e1 : (0 : Int32).toInt = 0 := rfl; omega))) ?_
    refine to_c (pc := 16) rw_186_16 (x := (0 : Int32)) rfl rfl ?_
    refine to_r1 (pc := 17) rw_186_17 (by decide +kernel) ?_
    refine to_ift (pc := 10) rw_238_10 (by decide +kernel) ?_
    refine to_c (pc := 50) rw_238_50 (x := (-2 : Int32)) rfl rfl ?_
    refine to_r0 (pc := 52) rw_238_52 ?_
    refine to_ict (pc := 1229) rw_0_1229 (by decide +kernel) ?_
    exact op_tail (op_c fC_fr_M)
  · refine to_iff (pc := 1) rw_139_1 (cd_no (c := .lt) (show ¬ x1.toInt < (0 : Int32).toInt from (by have e1 : (0 : Int32).toInt = 0 := rfl; omega))) ?_
    refine to_in (pc := 4) rw_139_4 rfl ?_
    refine to_an (pc := 5) rw_139_5 rfl ?_
    refine tt_gR (pc := 6) rw_139_6 fO_fr_M_0_10 fR_fr_M_0_1 ?_
    refine tt_gI (pc := 9) rw_139_9 fO_fr_M_6_3 fI_fr_M_6_0 ?_
    rcases Int.lt_or_le x1.toInt (1) with h2 | h2
    · refine to_icf (pc := 12) rw_139_12 (cd_no (c := .gt) (show ¬ x1.toInt > (0 : Int32).toInt from (by have e1 : (0 : Int32).toInt = 0 := rfl; omega))) ?_
      refine to_c (pc := 15) rw_139_15 (x := (1 : Int32)) rfl rfl ?_
      refine to_go (pc := 16) rw_139_16 ?_
      refine to_r1 (pc := 20) rw_139_20 (by decide +kernel) ?_
      refine to_iff (pc := 5) rw_135_5 (by decide +kernel) ?_
      refine to_an (pc := 8) rw_135_8 rfl ?_
      refine to_in (pc := 9) rw_135_9 rfl ?_
      refine to_v (pc := 10) rw_135_10 (hi := rfl) (ls0 := [.ref 0, .int _]) rfl (Nat.le_of_ble_eq_true rfl) (Nat.le_of_ble_eq_true rfl) rfl (to_rc rfl rfl rfl fO_fr_M_0_10) rfl ?_
      refine to_in (pc := 0) rw_140_0 rfl ?_
      rcases Int.lt_or_le x2.toInt (0) with h3 | h3
      · refine to_ift (pc := 1) rw_140_1 (cd_of (c := .lt) (show x2.toInt < (0 : Int32).toInt from (by have e1 : (0 : Int32).toInt = 0 := rfl; omega))) ?_
        refine to_c (pc := 16) rw_140_16 (x := (0 : Int32)) rfl rfl ?_
        refine to_r1 (pc := 17) rw_140_17 (by decide +kernel) ?_
        refine to_ift (pc := 13) rw_135_13 (by decide +kernel) ?_
        refine to_c (pc := 27) rw_135_27 (x := (-2 : Int32)) rfl rfl ?_
        refine to_r0 (pc := 29) rw_135_29 ?_
        refine to_an (pc := 1195) rw_0_1195 rfl ?_
        refine to_an (pc := 1196) rw_0_1196 rfl ?_
        refine to_i (pc := 1197) rw_0_1197 rfl ?_
        refine to_c (pc := 1199) rw_0_1199 (x := (1 : Int32)) rfl rfl ?_
        refine to_2 (pc := 1200) rw_0_1200 (v := (1 : Int32)) (by decide +kernel) ?_
        refine op_x (pc := 1201) rw_0_1201 (k := 1) (by decide +kernel) hx1 ?_
        refine to_an (pc := 1202) rw_0_1202 rfl ?_
        refine to_i (pc := 1203) rw_0_1203 rfl ?_
        refine to_c (pc := 1205) rw_0_1205 (x := (2 : Int32)) rfl rfl ?_
        refine to_2 (pc := 1206) rw_0_1206 (v := (2 : Int32)) (by decide +kernel) ?_
        refine op_x (pc := 1207) rw_0_1207 (k := 2) (by decide +kernel) hx2 ?_
        refine to_an (pc := 1208) rw_0_1208 rfl ?_
        refine to_i (pc := 1209) rw_0_1209 rfl ?_
        refine to_c (pc := 1211) rw_0_1211 (x := (3 : Int32)) rfl rfl ?_
        refine to_2 (pc := 1212) rw_0_1212 (v := (3 : Int32)) (by decide +kernel) ?_
        refine op_x (pc := 1213) rw_0_1213 (k := 3) (by decide +kernel) hx3 ?_
        refine to_an (pc := 1214) rw_0_1214 rfl ?_
        refine to_i (pc := 1215) rw_0_1215 rfl ?_
        refine to_c (pc := 1217) rw_0_1217 (x := (4 : Int32)) rfl rfl ?_
        refine to_2 (pc := 1218) rw_0_1218 (v := (4 : Int32)) (by decide +kernel) ?_
        refine op_x (pc := 1219) rw_0_1219 (k := 4) (by decide +kernel) hx4 ?_
        refine to_an (pc := 1220) rw_0_1220 rfl ?_
        refine to_i (pc := 1221) rw_0_1221 rfl ?_
        refine to_c (pc := 1223) rw_0_1223 (x := (5 : Int32)) rfl rfl ?_
        refine to_2 (pc := 1224) rw_0_1224 (v := (5 : Int32)) (by decide +kernel) ?_
        refine op_x (pc := 1225) rw_0_1225 (k := 5) (by decide +kernel) hx5 ?_
        refine to_v (pc := 1226) rw_0_1226 (hi := rfl) (ls0 := [.ref 77, .int _, .int _, .int _, .int _, .int _]) rfl (Nat.le_of_ble_eq_true rfl) (Nat.le_of_ble_eq_true rfl) rfl (to_rc rfl rfl rfl fO_fr_M_77_11) rfl ?_
        refine to_an (pc := 0) rw_238_0 rfl ?_
        refine to_c (pc := 1) rw_238_1 (x := (0 : Int32)) rfl rfl ?_
        refine tt_pI (pc := 2) rw_238_2 fO_fr_M_77_11 ?_
        refine to_an (pc := 5) rw_238_5 rfl ?_
        refine to_in (pc := 6) rw_238_6 rfl ?_
        refine to_v (pc := 7) rw_238_7 (hi := rfl) (ls0 := [.ref 77, .int _]) rfl (Nat.le_of_ble_eq_true rfl) (Nat.le_of_ble_eq_true rfl) rfl (to_rc rfl rfl rfl fO_fr_M_77_11) rfl ?_
        refine to_in (pc := 0) rw_186_0 rfl ?_
        refine to_iff (pc := 1) rw_186_1 (cd_no (c := .lt) (show ¬ x1.toInt < (0 : Int32).toInt from (by have e1 : (0 : Int32).toInt = 0 := rfl; omega))) ?_
        refine to_in (pc := 4) rw_186_4 rfl ?_
        refine to_an (pc := 5) rw_186_5 rfl ?_
        refine tt_gI (pc := 6) rw_186_6 fO_fr_M_77_11 (rI_n rfl fI_fr_M_77_29) ?_
        refine to_icf (pc := 9) rw_186_9 (cd_no (c := .gt) (show ¬ x1.toInt > (0 : Int32).toInt from (by have e1 : (0 : Int32).toInt = 0 := rfl; omega))) ?_
        refine to_c (pc := 12) rw_186_12 (x := (1 : Int32)) rfl rfl ?_
        refine to_go (pc := 13) rw_186_13 ?_
        refine to_r1 (pc := 17) rw_186_17 (by decide +kernel) ?_
        refine to_iff (pc := 10) rw_238_10 (by decide +kernel) ?_
        refine to_an (pc := 13) rw_238_13 rfl ?_
        refine to_in (pc := 14) rw_238_14 rfl ?_
        refine to_v (pc := 15) rw_238_15 (hi := rfl) (ls0 := [.ref 77, .int _]) rfl (Nat.le_of_ble_eq_true rfl) (Nat.le_of_ble_eq_true rfl) rfl (to_rc rfl rfl rfl fO_fr_M_77_11) rfl ?_
        refine to_in (pc := 0) rw_187_0 rfl ?_
        refine to_ift (pc := 1) rw_187_1 (cd_of (c := .lt) (show x2.toInt < (0 : Int32).toInt from (by have e1 : (0 : Int32).toInt = 0 := rfl; omega))) ?_
        refine to_c (pc := 16) rw_187_16 (x := (0 : Int32)) rfl rfl ?_
        refine to_r1 (pc := 17) rw_187_17 (by decide +kernel) ?_
        refine to_ift (pc := 18) rw_238_18 (by decide +kernel) ?_
        refine to_c (pc := 50) rw_238_50 (x := (-2 : Int32)) rfl rfl ?_
        refine to_r0 (pc := 52) rw_238_52 ?_
        refine to_ict (pc := 1229) rw_0_1229 (by decide +kernel) ?_
        exact op_tail (op_c fC_fr_M)
      · refine to_iff (pc := 1) rw_140_1 (cd_no (c := .lt) (show ¬ x2.toInt < (0 : Int32).toInt from (by have e1 : (0 : Int32).toInt = 0 := rfl; omega))) ?_
        refine to_in (pc := 4) rw_140_4 rfl ?_
        refine to_an (pc := 5) rw_140_5 rfl ?_
        refine tt_gI (pc := 6) rw_140_6 fO_fr_M_0_10 fI_fr_M_0_12 ?_
        refine to_ict (pc := 9) rw_140_9 (cd_of (c := .ge) (show x2.toInt ≥ (0 : Int32).toInt from (by have e1 : (0 : Int32).toInt = 0 := rfl; omega))) ?_
        refine to_c (pc := 16) rw_140_16 (x := (0 : Int32)) rfl rfl ?_
        refine to_r1 (pc := 17) rw_140_17 (by decide +kernel) ?_
        refine to_ift (pc := 13) rw_135_13 (by decide +kernel) ?_
        refine to_c (pc := 27) rw_135_27 (x := (-2 : Int32)) rfl rfl ?_
        refine to_r0 (pc := 29) rw_135_29 ?_
        refine to_an (pc := 1195) rw_0_1195 rfl ?_
        refine to_an (pc := 1196) rw_0_1196 rfl ?_
        refine to_i (pc := 1197) rw_0_1197 rfl ?_
        refine to_c (pc := 1199) rw_0_1199 (x := (1 : Int32)) rfl rfl ?_
        refine to_2 (pc := 1200) rw_0_1200 (v := (1 : Int32)) (by decide +kernel) ?_
        refine op_x (pc := 1201) rw_0_1201 (k := 1) (by decide +kernel) hx1 ?_
        refine to_an (pc := 1202) rw_0_1202 rfl ?_
        refine to_i (pc := 1203) rw_0_1203 rfl ?_
        refine to_c (pc := 1205) rw_0_1205 (x := (2 : Int32)) rfl rfl ?_
        refine to_2 (pc := 1206) rw_0_1206 (v := (2 : Int32)) (by decide +kernel) ?_
        refine op_x (pc := 1207) rw_0_1207 (k := 2) (by decide +kernel) hx2 ?_
        refine to_an (pc := 1208) rw_0_1208 rfl ?_
        refine to_i (pc := 1209) rw_0_1209 rfl ?_
        refine to_c (pc := 1211) rw_0_1211 (x := (3 : Int32)) rfl rfl ?_
        refine to_2 (pc := 1212) rw_0_1212 (v := (3 : Int32)) (by decide +kernel) ?_
        refine op_x (pc := 1213) rw_0_1213 (k := 3) (by decide +kernel) hx3 ?_
        refine to_an (pc := 1214) rw_0_1214 rfl ?_
        refine to_i (pc := 1215) rw_0_1215 rfl ?_
        refine to_c (pc := 1217) rw_0_1217 (x := (4 : Int32)) rfl rfl ?_
        refine to_2 (pc := 1218) rw_0_1218 (v := (4 : Int32)) (by decide +kernel) ?_
        refine op_x (pc := 1219) rw_0_1219 (k := 4) (by decide +kernel) hx4 ?_
        refine to_an (pc := 1220) rw_0_1220 rfl ?_
        refine to_i (pc := 1221) rw_0_1221 rfl ?_
        refine to_c (pc := 1223) rw_0_1223 (x := (5 : Int32)) rfl rfl ?_
        refine to_2 (pc := 1224) rw_0_1224 (v := (5 : Int32)) (by decide +kernel) ?_
        refine op_x (pc := 1225) rw_0_1225 (k := 5) (by decide +kernel) hx5 ?_
        refine to_v (pc := 1226) rw_0_1226 (hi := rfl) (ls0 := [.ref 77, .int _, .int _, .int _, .int _, .int _]) rfl (Nat.le_of_ble_eq_true rfl) (Nat.le_of_ble_eq_true rfl) rfl (to_rc rfl rfl rfl fO_fr_M_77_11) rfl ?_
        refine to_an (pc := 0) rw_238_0 rfl ?_
        refine to_c (pc := 1) rw_238_1 (x := (0 : Int32)) rfl rfl ?_
        refine tt_pI (pc := 2) rw_238_2 fO_fr_M_77_11 ?_
        refine to_an (pc := 5) rw_238_5 rfl ?_
        refine to_in (pc := 6) rw_238_6 rfl ?_
        refine to_v (pc := 7) rw_238_7 (hi := rfl) (ls0 := [.ref 77, .int _]) rfl (Nat.le_of_ble_eq_true rfl) (Nat.le_of_ble_eq_true rfl) rfl (to_rc rfl rfl rfl fO_fr_M_77_11) rfl ?_
        refine to_in (pc := 0) rw_186_0 rfl ?_
        refine to_iff (pc := 1) rw_186_1 (cd_no (c := .lt) (show ¬ x1.toInt < (0 : Int32).toInt from (by have e1 : (0 : Int32).toInt = 0 := rfl; omega))) ?_
        refine to_in (pc := 4) rw_186_4 rfl ?_
        refine to_an (pc := 5) rw_186_5 rfl ?_
        refine tt_gI (pc := 6) rw_186_6 fO_fr_M_77_11 (rI_n rfl fI_fr_M_77_29) ?_
        refine to_icf (pc := 9) rw_186_9 (cd_no (c := .gt) (show ¬ x1.toInt > (0 : Int32).toInt from (by have e1 : (0 : Int32).toInt = 0 := rfl; omega))) ?_
        refine to_c (pc := 12) rw_186_12 (x := (1 : Int32)) rfl rfl ?_
        refine to_go (pc := 13) rw_186_13 ?_
        refine to_r1 (pc := 17) rw_186_17 (by decide +kernel) ?_
        refine to_iff (pc := 10) rw_238_10 (by decide +kernel) ?_
        refine to_an (pc := 13) rw_238_13 rfl ?_
        refine to_in (pc := 14) rw_238_14 rfl ?_
        refine to_v (pc := 15) rw_238_15 (hi := rfl) (ls0 := [.ref 77, .int _]) rfl (Nat.le_of_ble_eq_true rfl) (Nat.le_of_ble_eq_true rfl) rfl (to_rc rfl rfl rfl fO_fr_M_77_11) rfl ?_
        refine to_in (pc := 0) rw_187_0 rfl ?_
        refine to_iff (pc := 1) rw_187_1 (cd_no (c := .lt) (show ¬ x2.toInt < (0 : Int32).toInt from (by have e1 : (0 : Int32).toInt = 0 := rfl; omega))) ?_
        refine to_in (pc := 4) rw_187_4 rfl ?_
        refine to_an (pc := 5) rw_187_5 rfl ?_
        refine tt_gI (pc := 6) rw_187_6 fO_fr_M_77_11 (rI_n rfl fI_fr_M_77_28) ?_
        refine to_ict (pc := 9) rw_187_9 (cd_of (c := .ge) (show x2.toInt ≥ (0 : Int32).toInt from (by have e1 : (0 : Int32).toInt = 0 := rfl; omega))) ?_
        refine to_c (pc := 16) rw_187_16 (x := (0 : Int32)) rfl rfl ?_
        refine to_r1 (pc := 17) rw_187_17 (by decide +kernel) ?_
        refine to_ift (pc := 18) rw_238_18 (by decide +kernel) ?_
        refine to_c (pc := 50) rw_238_50 (x := (-2 : Int32)) rfl rfl ?_
        refine to_r0 (pc := 52) rw_238_52 ?_
        refine to_ict (pc := 1229) rw_0_1229 (by decide +kernel) ?_
        exact op_tail (op_c fC_fr_M)
    · refine to_ict (pc := 12) rw_139_12 (cd_of (c := .gt) (show x1.toInt > (0 : Int32).toInt from (by have e1 : (0 : Int32).toInt = 0 := rfl; omega))) ?_
      refine to_c (pc := 19) rw_139_19 (x := (0 : Int32)) rfl rfl ?_
      refine to_r1 (pc := 20) rw_139_20 (by decide +kernel) ?_
      refine to_ift (pc := 5) rw_135_5 (by decide +kernel) ?_
      refine to_c (pc := 27) rw_135_27 (x := (-2 : Int32)) rfl rfl ?_
      refine to_r0 (pc := 29) rw_135_29 ?_
      refine to_an (pc := 1195) rw_0_1195 rfl ?_
      refine to_an (pc := 1196) rw_0_1196 rfl ?_
      refine to_i (pc := 1197) rw_0_1197 rfl ?_
      refine to_c (pc := 1199) rw_0_1199 (x := (1 : Int32)) rfl rfl ?_
      refine to_2 (pc := 1200) rw_0_1200 (v := (1 : Int32)) (by decide +kernel) ?_
      refine op_x (pc := 1201) rw_0_1201 (k := 1) (by decide +kernel) hx1 ?_
      refine to_an (pc := 1202) rw_0_1202 rfl ?_
      refine to_i (pc := 1203) rw_0_1203 rfl ?_
      refine to_c (pc := 1205) rw_0_1205 (x := (2 : Int32)) rfl rfl ?_
      refine to_2 (pc := 1206) rw_0_1206 (v := (2 : Int32)) (by decide +kernel) ?_
      refine op_x (pc := 1207) rw_0_1207 (k := 2) (by decide +kernel) hx2 ?_
      refine to_an (pc := 1208) rw_0_1208 rfl ?_
      refine to_i (pc := 1209) rw_0_1209 rfl ?_
      refine to_c (pc := 1211) rw_0_1211 (x := (3 : Int32)) rfl rfl ?_
      refine to_2 (pc := 1212) rw_0_1212 (v := (3 : Int32)) (by decide +kernel) ?_
      refine op_x (pc := 1213) rw_0_1213 (k := 3) (by decide +kernel) hx3 ?_
      refine to_an (pc := 1214) rw_0_1214 rfl ?_
      refine to_i (pc := 1215) rw_0_1215 rfl ?_
      refine to_c (pc := 1217) rw_0_1217 (x := (4 : Int32)) rfl rfl ?_
      refine to_2 (pc := 1218) rw_0_1218 (v := (4 : Int32)) (by decide +kernel) ?_
      refine op_x (pc := 1219) rw_0_1219 (k := 4) (by decide +kernel) hx4 ?_
      refine to_an (pc := 1220) rw_0_1220 rfl ?_
      refine to_i (pc := 1221) rw_0_1221 rfl ?_
      refine to_c (pc := 1223) rw_0_1223 (x := (5 : Int32)) rfl rfl ?_
      refine to_2 (pc := 1224) rw_0_1224 (v := (5 : Int32)) (by decide +kernel) ?_
      refine op_x (pc := 1225) rw_0_1225 (k := 5) (by decide +kernel) hx5 ?_
      refine to_v (pc := 1226) rw_0_1226 (hi := rfl) (ls0 := [.ref 77, .int _, .int _, .int _, .int _, .int _]) rfl (Nat.le_of_ble_eq_true rfl) (Nat.le_of_ble_eq_true rfl) rfl (to_rc rfl rfl rfl fO_fr_M_77_11) rfl ?_
      refine to_an (pc := 0) rw_238_0 rfl ?_
      refine to_c (pc := 1) rw_238_1 (x := (0 : Int32)) rfl rfl ?_
      refine tt_pI (pc := 2) rw_238_2 fO_fr_M_77_11 ?_
      refine to_an (pc := 5) rw_238_5 rfl ?_
      refine to_in (pc := 6) rw_238_6 rfl ?_
      refine to_v (pc := 7) rw_238_7 (hi := rfl) (ls0 := [.ref 77, .int _]) rfl (Nat.le_of_ble_eq_true rfl) (Nat.le_of_ble_eq_true rfl) rfl (to_rc rfl rfl rfl fO_fr_M_77_11) rfl ?_
      refine to_in (pc := 0) rw_186_0 rfl ?_
      refine to_iff (pc := 1) rw_186_1 (cd_no (c := .lt) (show ¬ x1.toInt < (0 : Int32).toInt from (by have e1 : (0 : Int32).toInt = 0 := rfl; omega))) ?_
      refine to_in (pc := 4) rw_186_4 rfl ?_
      refine to_an (pc := 5) rw_186_5 rfl ?_
      refine tt_gI (pc := 6) rw_186_6 fO_fr_M_77_11 (rI_n rfl fI_fr_M_77_29) ?_
      refine to_ict (pc := 9) rw_186_9 (cd_of (c := .gt) (show x1.toInt > (0 : Int32).toInt from (by have e1 : (0 : Int32).toInt = 0 := rfl; omega))) ?_
      refine to_c (pc := 16) rw_186_16 (x := (0 : Int32)) rfl rfl ?_
      refine to_r1 (pc := 17) rw_186_17 (by decide +kernel) ?_
      refine to_ift (pc := 10) rw_238_10 (by decide +kernel) ?_
      refine to_c (pc := 50) rw_238_50 (x := (-2 : Int32)) rfl rfl ?_
      refine to_r0 (pc := 52) rw_238_52 ?_
      refine to_ict (pc := 1229) rw_0_1229 (by decide +kernel) ?_
      exact op_tail (op_c fC_fr_M)
set_option maxHeartbeats 0 in
set_option maxRecDepth 4000 in
theorem op_27 {fr_M fr_1 fr_2 fr_3 fr_4 fr_5 fr_6 fr_7 fr_8 fr_9 fr_10 fr_11 fr_12 : mm_M} (HM : fr_Eq fr_M fr_1 fr_2 fr_3 fr_4 fr_5 fr_6 fr_7 fr_8 fr_9 fr_10 fr_11 fr_12) {xs : Nat → Int32} {x1 x2 x3 x4 x5 : Int32} (hx1 : xs 1 = x1) (hx2 : xs 2 = x2) (hx3 : xs 3 = x3) (hx4 : xs 4 = x4) (hx5 : xs 5 = x5) : mm_T (fr_X 6 xs) 40 0 1234 [.ref mm_ext, .ref 0, .ref 77, .ref 125, .int 0, .null, .null] [] fr_M op_Q := by
  have z0 : (0 : Int32).toInt = 0 := rfl
  have fC_fr_M := fC_fr_M HM
  have fI_fr_M_49_2 := fI_fr_M_49_2 HM
  have fI_fr_M_77_12 := fI_fr_M_77_12 HM
  have fO_fr_M_0_10 := fO_fr_M_0_10 HM
  have fO_fr_M_49_5 := fO_fr_M_49_5 HM
  have fO_fr_M_77_11 := fO_fr_M_77_11 HM
  have fR_fr_M_0_8 := fR_fr_M_0_8 HM
  refine to_an (pc := 1234) rw_0_1234 rfl ?_
  refine to_an (pc := 1235) rw_0_1235 rfl ?_
  refine to_i (pc := 1236) rw_0_1236 rfl ?_
  refine to_c (pc := 1238) rw_0_1238 (x := (1 : Int32)) rfl rfl ?_
  refine to_2 (pc := 1239) rw_0_1239 (v := (1 : Int32)) (by decide +kernel) ?_
  refine op_x (pc := 1240) rw_0_1240 (k := 1) (by decide +kernel) hx1 ?_
  refine to_an (pc := 1241) rw_0_1241 rfl ?_
  refine to_i (pc := 1242) rw_0_1242 rfl ?_
  refine to_c (pc := 1244) rw_0_1244 (x := (2 : Int32)) rfl rfl ?_
  refine to_2 (pc := 1245) rw_0_1245 (v := (2 : Int32)) (by decide +kernel) ?_
  refine op_x (pc := 1246) rw_0_1246 (k := 2) (by decide +kernel) hx2 ?_
  refine to_v (pc := 1247) rw_0_1247 (hi := rfl) (ls0 := [.ref 0, .int _, .int _]) rfl (Nat.le_of_ble_eq_true rfl) (Nat.le_of_ble_eq_true rfl) rfl (to_rc rfl rfl rfl fO_fr_M_0_10) rfl ?_
  refine to_in (pc := 0) rw_136_0 rfl ?_
  refine to_s (pc := 1) rw_136_1 (ls0 := [.int _]) rfl (Nat.le_of_ble_eq_true rfl) (Nat.le_of_ble_eq_true rfl) rfl (to_rcs rfl rfl) rfl ?_
  refine to_in (pc := 0) rw_143_0 rfl ?_
  rcases Int.lt_or_le x1.toInt (0) with h1 | h1
  · refine to_ift (pc := 1) rw_143_1 (cd_of (c := .lt) (show x1.toInt < (0 : Int32).toInt from (by have e1 : (0 : Int32).toInt = 0 := rfl; omega))) ?_
    refine to_c (pc := 14) rw_143_14 (x := (0 : Int32)) rfl rfl ?_
    refine to_r1 (pc := 15) rw_143_15 (by decide +kernel) ?_
    refine to_ift (pc := 4) rw_136_4 (by decide +kernel) ?_
    refine to_c (pc := 29) rw_136_29 (x := (-1 : Int32)) rfl rfl ?_
    refine to_r0 (pc := 30) rw_136_30 ?_
    refine to_an (pc := 1250) rw_0_1250 rfl ?_
    refine to_an (pc := 1251) rw_0_1251 rfl ?_
    refine to_i (pc := 1252) rw_0_1252 rfl ?_
    refine to_c (pc := 1254) rw_0_1254 (x := (1 : Int32)) rfl rfl ?_
    refine to_2 (pc := 1255) rw_0_1255 (v := (1 : Int32)) (by decide +kernel) ?_
    refine op_x (pc := 1256) rw_0_1256 (k := 1) (by decide +kernel) hx1 ?_
    refine to_an (pc := 1257) rw_0_1257 rfl ?_
    refine to_i (pc := 1258) rw_0_1258 rfl ?_
    refine to_c (pc := 1260) rw_0_1260 (x := (2 : Int32)) rfl rfl ?_
    refine to_2 (pc := 1261) rw_0_1261 (v := (2 : Int32)) (by decide +kernel) ?_
    refine op_x (pc := 1262) rw_0_1262 (k := 2) (by decide +kernel) hx2 ?_
    refine to_v (pc := 1263) rw_0_1263 (hi := rfl) (ls0 := [.ref 77, .int _, .int _, .null, .null, .null]) rfl (Nat.le_of_ble_eq_true rfl) (Nat.le_of_ble_eq_true rfl) rfl (to_rc rfl rfl rfl fO_fr_M_77_11) rfl ?_
    refine to_an (pc := 0) rw_242_0 rfl ?_
    refine to_c (pc := 1) rw_242_1 (x := (0 : Int32)) rfl rfl ?_
    refine tt_pI (pc := 2) rw_242_2 fO_fr_M_77_11 ?_
    refine to_in (pc := 5) rw_242_5 rfl ?_
    refine to_s (pc := 6) rw_242_6 (ls0 := [.int _]) rfl (Nat.le_of_ble_eq_true rfl) (Nat.le_of_ble_eq_true rfl) rfl (to_rcs rfl rfl) rfl ?_
    refine to_in (pc := 0) rw_205_0 rfl ?_
    refine to_ift (pc := 1) rw_205_1 (cd_of (c := .lt) (show x1.toInt < (0 : Int32).toInt from (by have e1 : (0 : Int32).toInt = 0 := rfl; omega))) ?_
    refine to_c (pc := 14) rw_205_14 (x := (0 : Int32)) rfl rfl ?_
    refine to_r1 (pc := 15) rw_205_15 (by decide +kernel) ?_
    refine to_ift (pc := 9) rw_242_9 (by decide +kernel) ?_
    refine to_c (pc := 20) rw_242_20 (x := (-1 : Int32)) rfl rfl ?_
    refine to_r0 (pc := 21) rw_242_21 ?_
    refine to_ict (pc := 1266) rw_0_1266 (by decide +kernel) ?_
    exact op_tail (op_c fC_fr_M)
  · refine to_iff (pc := 1) rw_143_1 (cd_no (c := .lt) (show ¬ x1.toInt < (0 : Int32).toInt from (by have e1 : (0 : Int32).toInt = 0 := rfl; omega))) ?_
    refine to_in (pc := 4) rw_143_4 rfl ?_
    refine to_c (pc := 5) rw_143_5 (x := (6 : Int32)) rfl rfl ?_
    rcases Int.lt_or_le x1.toInt (6) with h2 | h2
    · refine to_icf (pc := 7) rw_143_7 (cd_no (c := .ge) (show ¬ x1.toInt ≥ (6 : Int32).toInt from (by have e1 : (6 : Int32).toInt = 6 := rfl; omega))) ?_
      refine to_c (pc := 10) rw_143_10 (x := (1 : Int32)) rfl rfl ?_
      refine to_go (pc := 11) rw_143_11 ?_
      refine to_r1 (pc := 15) rw_143_15 (by decide +kernel) ?_
      refine to_iff (pc := 4) rw_136_4 (by decide +kernel) ?_
      refine to_an (pc := 7) rw_136_7 rfl ?_
      refine tt_gR (pc := 8) rw_136_8 fO_fr_M_0_10 fR_fr_M_0_8 ?_
      refine to_in (pc := 11) rw_136_11 rfl ?_
      refine to_v (pc := 12) rw_136_12 (hi := rfl) (ls0 := [.ref 49, .int _]) rfl (Nat.le_of_ble_eq_true rfl) (Nat.le_of_ble_eq_true rfl) rfl (to_rc rfl rfl rfl fO_fr_M_49_5) rfl ?_
      refine to_in (pc := 0) rw_43_0 rfl ?_
      rcases Int.lt_or_le x2.toInt (0) with h3 | h3
      · refine to_ift (pc := 1) rw_43_1 (cd_of (c := .lt) (show x2.toInt < (0 : Int32).toInt from (by have e1 : (0 : Int32).toInt = 0 := rfl; omega))) ?_
        refine to_c (pc := 16) rw_43_16 (x := (0 : Int32)) rfl rfl ?_
        refine to_r1 (pc := 17) rw_43_17 (by decide +kernel) ?_
        refine to_ift (pc := 15) rw_136_15 (by decide +kernel) ?_
        refine to_c (pc := 29) rw_136_29 (x := (-1 : Int32)) rfl rfl ?_
        refine to_r0 (pc := 30) rw_136_30 ?_
        refine to_an (pc := 1250) rw_0_1250 rfl ?_
        refine to_an (pc := 1251) rw_0_1251 rfl ?_
        refine to_i (pc := 1252) rw_0_1252 rfl ?_
        refine to_c (pc := 1254) rw_0_1254 (x := (1 : Int32)) rfl rfl ?_
        refine to_2 (pc := 1255) rw_0_1255 (v := (1 : Int32)) (by decide +kernel) ?_
        refine op_x (pc := 1256) rw_0_1256 (k := 1) (by decide +kernel) hx1 ?_
        refine to_an (pc := 1257) rw_0_1257 rfl ?_
        refine to_i (pc := 1258) rw_0_1258 rfl ?_
        refine to_c (pc := 1260) rw_0_1260 (x := (2 : Int32)) rfl rfl ?_
        refine to_2 (pc := 1261) rw_0_1261 (v := (2 : Int32)) (by decide +kernel) ?_
        refine op_x (pc := 1262) rw_0_1262 (k := 2) (by decide +kernel) hx2 ?_
        refine to_v (pc := 1263) rw_0_1263 (hi := rfl) (ls0 := [.ref 77, .int _, .int _, .null, .null, .null]) rfl (Nat.le_of_ble_eq_true rfl) (Nat.le_of_ble_eq_true rfl) rfl (to_rc rfl rfl rfl fO_fr_M_77_11) rfl ?_
        refine to_an (pc := 0) rw_242_0 rfl ?_
        refine to_c (pc := 1) rw_242_1 (x := (0 : Int32)) rfl rfl ?_
        refine tt_pI (pc := 2) rw_242_2 fO_fr_M_77_11 ?_
        refine to_in (pc := 5) rw_242_5 rfl ?_
        refine to_s (pc := 6) rw_242_6 (ls0 := [.int _]) rfl (Nat.le_of_ble_eq_true rfl) (Nat.le_of_ble_eq_true rfl) rfl (to_rcs rfl rfl) rfl ?_
        refine to_in (pc := 0) rw_205_0 rfl ?_
        refine to_iff (pc := 1) rw_205_1 (cd_no (c := .lt) (show ¬ x1.toInt < (0 : Int32).toInt from (by have e1 : (0 : Int32).toInt = 0 := rfl; omega))) ?_
        refine to_in (pc := 4) rw_205_4 rfl ?_
        refine to_c (pc := 5) rw_205_5 (x := (6 : Int32)) rfl rfl ?_
        refine to_icf (pc := 7) rw_205_7 (cd_no (c := .ge) (show ¬ x1.toInt ≥ (6 : Int32).toInt from (by have e1 : (6 : Int32).toInt = 6 := rfl; omega))) ?_
        refine to_c (pc := 10) rw_205_10 (x := (1 : Int32)) rfl rfl ?_
        refine to_go (pc := 11) rw_205_11 ?_
        refine to_r1 (pc := 15) rw_205_15 (by decide +kernel) ?_
        refine to_iff (pc := 9) rw_242_9 (by decide +kernel) ?_
        refine to_an (pc := 12) rw_242_12 rfl ?_
        refine to_in (pc := 13) rw_242_13 rfl ?_
        refine to_v (pc := 14) rw_242_14 (hi := rfl) (ls0 := [.ref 77, .int _]) rfl (Nat.le_of_ble_eq_true rfl) (Nat.le_of_ble_eq_true rfl) rfl (to_rc rfl rfl rfl fO_fr_M_77_11) rfl ?_
        refine to_an (pc := 0) rw_179_0 rfl ?_
        refine to_in (pc := 1) rw_179_1 rfl ?_
        refine to_v (pc := 2) rw_179_2 (hi := rfl) (ls0 := [.ref 77, .int _]) rfl (Nat.le_of_ble_eq_true rfl) (Nat.le_of_ble_eq_true rfl) rfl (to_rc rfl rfl rfl fO_fr_M_77_11) rfl ?_
        refine to_in (pc := 0) rw_178_0 rfl ?_
        refine to_ift (pc := 1) rw_178_1 (cd_of (c := .lt) (show x2.toInt < (0 : Int32).toInt from (by have e1 : (0 : Int32).toInt = 0 := rfl; omega))) ?_
        refine to_c (pc := 16) rw_178_16 (x := (0 : Int32)) rfl rfl ?_
        refine to_r1 (pc := 17) rw_178_17 (by decide +kernel) ?_
        refine to_ift (pc := 5) rw_179_5 (by decide +kernel) ?_
        refine to_c (pc := 22) rw_179_22 (x := (0 : Int32)) rfl rfl ?_
        refine to_r1 (pc := 23) rw_179_23 (by decide +kernel) ?_
        refine to_iff (pc := 17) rw_242_17 (by decide +kernel) ?_
        refine to_c (pc := 20) rw_242_20 (x := (-1 : Int32)) rfl rfl ?_
        refine to_r0 (pc := 21) rw_242_21 ?_
        refine to_ict (pc := 1266) rw_0_1266 (by decide +kernel) ?_
        exact op_tail (op_c fC_fr_M)
      · refine to_iff (pc := 1) rw_43_1 (cd_no (c := .lt) (show ¬ x2.toInt < (0 : Int32).toInt from (by have e1 : (0 : Int32).toInt = 0 := rfl; omega))) ?_
        refine to_in (pc := 4) rw_43_4 rfl ?_
        refine to_an (pc := 5) rw_43_5 rfl ?_
        refine tt_gI (pc := 6) rw_43_6 fO_fr_M_49_5 fI_fr_M_49_2 ?_
        refine to_ict (pc := 9) rw_43_9 (cd_of (c := .ge) (show x2.toInt ≥ (0 : Int32).toInt from (by have e1 : (0 : Int32).toInt = 0 := rfl; omega))) ?_
        refine to_c (pc := 16) rw_43_16 (x := (0 : Int32)) rfl rfl ?_
        refine to_r1 (pc := 17) rw_43_17 (by decide +kernel) ?_
        refine to_ift (pc := 15) rw_136_15 (by decide +kernel) ?_
        refine to_c (pc := 29) rw_136_29 (x := (-1 : Int32)) rfl rfl ?_
        refine to_r0 (pc := 30) rw_136_30 ?_
        refine to_an (pc := 1250) rw_0_1250 rfl ?_
        refine to_an (pc := 1251) rw_0_1251 rfl ?_
        refine to_i (pc := 1252) rw_0_1252 rfl ?_
        refine to_c (pc := 1254) rw_0_1254 (x := (1 : Int32)) rfl rfl ?_
        refine to_2 (pc := 1255) rw_0_1255 (v := (1 : Int32)) (by decide +kernel) ?_
        refine op_x (pc := 1256) rw_0_1256 (k := 1) (by decide +kernel) hx1 ?_
        refine to_an (pc := 1257) rw_0_1257 rfl ?_
        refine to_i (pc := 1258) rw_0_1258 rfl ?_
        refine to_c (pc := 1260) rw_0_1260 (x := (2 : Int32)) rfl rfl ?_
        refine to_2 (pc := 1261) rw_0_1261 (v := (2 : Int32)) (by decide +kernel) ?_
        refine op_x (pc := 1262) rw_0_1262 (k := 2) (by decide +kernel) hx2 ?_
        refine to_v (pc := 1263) rw_0_1263 (hi := rfl) (ls0 := [.ref 77, .int _, .int _, .null, .null, .null]) rfl (Nat.le_of_ble_eq_true rfl) (Nat.le_of_ble_eq_true rfl) rfl (to_rc rfl rfl rfl fO_fr_M_77_11) rfl ?_
        refine to_an (pc := 0) rw_242_0 rfl ?_
        refine to_c (pc := 1) rw_242_1 (x := (0 : Int32)) rfl rfl ?_
        refine tt_pI (pc := 2) rw_242_2 fO_fr_M_77_11 ?_
        refine to_in (pc := 5) rw_242_5 rfl ?_
        refine to_s (pc := 6) rw_242_6 (ls0 := [.int _]) rfl (Nat.le_of_ble_eq_true rfl) (Nat.le_of_ble_eq_true rfl) rfl (to_rcs rfl rfl) rfl ?_
        refine to_in (pc := 0) rw_205_0 rfl ?_
        refine to_iff (pc := 1) rw_205_1 (cd_no (c := .lt) (show ¬ x1.toInt < (0 : Int32).toInt from (by have e1 : (0 : Int32).toInt = 0 := rfl; omega))) ?_
        refine to_in (pc := 4) rw_205_4 rfl ?_
        refine to_c (pc := 5) rw_205_5 (x := (6 : Int32)) rfl rfl ?_
        refine to_icf (pc := 7) rw_205_7 (cd_no (c := .ge) (show ¬ x1.toInt ≥ (6 : Int32).toInt from (by have e1 : (6 : Int32).toInt = 6 := rfl; omega))) ?_
        refine to_c (pc := 10) rw_205_10 (x := (1 : Int32)) rfl rfl ?_
        refine to_go (pc := 11) rw_205_11 ?_
        refine to_r1 (pc := 15) rw_205_15 (by decide +kernel) ?_
        refine to_iff (pc := 9) rw_242_9 (by decide +kernel) ?_
        refine to_an (pc := 12) rw_242_12 rfl ?_
        refine to_in (pc := 13) rw_242_13 rfl ?_
        refine to_v (pc := 14) rw_242_14 (hi := rfl) (ls0 := [.ref 77, .int _]) rfl (Nat.le_of_ble_eq_true rfl) (Nat.le_of_ble_eq_true rfl) rfl (to_rc rfl rfl rfl fO_fr_M_77_11) rfl ?_
        refine to_an (pc := 0) rw_179_0 rfl ?_
        refine to_in (pc := 1) rw_179_1 rfl ?_
        refine to_v (pc := 2) rw_179_2 (hi := rfl) (ls0 := [.ref 77, .int _]) rfl (Nat.le_of_ble_eq_true rfl) (Nat.le_of_ble_eq_true rfl) rfl (to_rc rfl rfl rfl fO_fr_M_77_11) rfl ?_
        refine to_in (pc := 0) rw_178_0 rfl ?_
        refine to_iff (pc := 1) rw_178_1 (cd_no (c := .lt) (show ¬ x2.toInt < (0 : Int32).toInt from (by have e1 : (0 : Int32).toInt = 0 := rfl; omega))) ?_
        refine to_in (pc := 4) rw_178_4 rfl ?_
        refine to_an (pc := 5) rw_178_5 rfl ?_
        refine tt_gI (pc := 6) rw_178_6 fO_fr_M_77_11 (rI_n rfl fI_fr_M_77_12) ?_
        refine to_ict (pc := 9) rw_178_9 (cd_of (c := .ge) (show x2.toInt ≥ (0 : Int32).toInt from (by have e1 : (0 : Int32).toInt = 0 := rfl; omega))) ?_
        refine to_c (pc := 16) rw_178_16 (x := (0 : Int32)) rfl rfl ?_
        refine to_r1 (pc := 17) rw_178_17 (by decide +kernel) ?_
        refine to_ift (pc := 5) rw_179_5 (by decide +kernel) ?_
        refine to_c (pc := 22) rw_179_22 (x := (0 : Int32)) rfl rfl ?_
        refine to_r1 (pc := 23) rw_179_23 (by decide +kernel) ?_
        refine to_iff (pc := 17) rw_242_17 (by decide +kernel) ?_
        refine to_c (pc := 20) rw_242_20 (x := (-1 : Int32)) rfl rfl ?_
        refine to_r0 (pc := 21) rw_242_21 ?_
        refine to_ict (pc := 1266) rw_0_1266 (by decide +kernel) ?_
        exact op_tail (op_c fC_fr_M)
    · refine to_ict (pc := 7) rw_143_7 (cd_of (c := .ge) (show x1.toInt ≥ (6 : Int32).toInt from (by have e1 : (6 : Int32).toInt = 6 := rfl; omega))) ?_
      refine to_c (pc := 14) rw_143_14 (x := (0 : Int32)) rfl rfl ?_
      refine to_r1 (pc := 15) rw_143_15 (by decide +kernel) ?_
      refine to_ift (pc := 4) rw_136_4 (by decide +kernel) ?_
      refine to_c (pc := 29) rw_136_29 (x := (-1 : Int32)) rfl rfl ?_
      refine to_r0 (pc := 30) rw_136_30 ?_
      refine to_an (pc := 1250) rw_0_1250 rfl ?_
      refine to_an (pc := 1251) rw_0_1251 rfl ?_
      refine to_i (pc := 1252) rw_0_1252 rfl ?_
      refine to_c (pc := 1254) rw_0_1254 (x := (1 : Int32)) rfl rfl ?_
      refine to_2 (pc := 1255) rw_0_1255 (v := (1 : Int32)) (by decide +kernel) ?_
      refine op_x (pc := 1256) rw_0_1256 (k := 1) (by decide +kernel) hx1 ?_
      refine to_an (pc := 1257) rw_0_1257 rfl ?_
      refine to_i (pc := 1258) rw_0_1258 rfl ?_
      refine to_c (pc := 1260) rw_0_1260 (x := (2 : Int32)) rfl rfl ?_
      refine to_2 (pc := 1261) rw_0_1261 (v := (2 : Int32)) (by decide +kernel) ?_
      refine op_x (pc := 1262) rw_0_1262 (k := 2) (by decide +kernel) hx2 ?_
      refine to_v (pc := 1263) rw_0_1263 (hi := rfl) (ls0 := [.ref 77, .int _, .int _, .null, .null, .null]) rfl (Nat.le_of_ble_eq_true rfl) (Nat.le_of_ble_eq_true rfl) rfl (to_rc rfl rfl rfl fO_fr_M_77_11) rfl ?_
      refine to_an (pc := 0) rw_242_0 rfl ?_
      refine to_c (pc := 1) rw_242_1 (x := (0 : Int32)) rfl rfl ?_
      refine tt_pI (pc := 2) rw_242_2 fO_fr_M_77_11 ?_
      refine to_in (pc := 5) rw_242_5 rfl ?_
      refine to_s (pc := 6) rw_242_6 (ls0 := [.int _]) rfl (Nat.le_of_ble_eq_true rfl) (Nat.le_of_ble_eq_true rfl) rfl (to_rcs rfl rfl) rfl ?_
      refine to_in (pc := 0) rw_205_0 rfl ?_
      refine to_iff (pc := 1) rw_205_1 (cd_no (c := .lt) (show ¬ x1.toInt < (0 : Int32).toInt from (by have e1 : (0 : Int32).toInt = 0 := rfl; omega))) ?_
      refine to_in (pc := 4) rw_205_4 rfl ?_
      refine to_c (pc := 5) rw_205_5 (x := (6 : Int32)) rfl rfl ?_
      refine to_ict (pc := 7) rw_205_7 (cd_of (c := .ge) (show x1.toInt ≥ (6 : Int32).toInt from (by have e1 : (6 : Int32).toInt = 6 := rfl; omega))) ?_
      refine to_c (pc := 14) rw_205_14 (x := (0 : Int32)) rfl rfl ?_
      refine to_r1 (pc := 15) rw_205_15 (by decide +kernel) ?_
      refine to_ift (pc := 9) rw_242_9 (by decide +kernel) ?_
      refine to_c (pc := 20) rw_242_20 (x := (-1 : Int32)) rfl rfl ?_
      refine to_r0 (pc := 21) rw_242_21 ?_
      refine to_ict (pc := 1266) rw_0_1266 (by decide +kernel) ?_
      exact op_tail (op_c fC_fr_M)
set_option maxHeartbeats 0 in
set_option maxRecDepth 4000 in
theorem op_28 {fr_M fr_1 fr_2 fr_3 fr_4 fr_5 fr_6 fr_7 fr_8 fr_9 fr_10 fr_11 fr_12 : mm_M} (HM : fr_Eq fr_M fr_1 fr_2 fr_3 fr_4 fr_5 fr_6 fr_7 fr_8 fr_9 fr_10 fr_11 fr_12) {xs : Nat → Int32} {x1 x2 x3 x4 x5 : Int32} (hx1 : xs 1 = x1) (hx2 : xs 2 = x2) (hx3 : xs 3 = x3) (hx4 : xs 4 = x4) (hx5 : xs 5 = x5) : mm_T (fr_X 6 xs) 40 0 1271 [.ref mm_ext, .ref 0, .ref 77, .ref 125, .int 0, .null, .null] [] fr_M op_Q := by
  have z0 : (0 : Int32).toInt = 0 := rfl
  have fC_fr_M := fC_fr_M HM
  have fI_fr_M_49_2 := fI_fr_M_49_2 HM
  have fI_fr_M_77_12 := fI_fr_M_77_12 HM
  have fO_fr_M_0_10 := fO_fr_M_0_10 HM
  have fO_fr_M_49_5 := fO_fr_M_49_5 HM
  have fO_fr_M_77_11 := fO_fr_M_77_11 HM
  have fR_fr_M_0_8 := fR_fr_M_0_8 HM
  refine to_an (pc := 1271) rw_0_1271 rfl ?_
  refine to_an (pc := 1272) rw_0_1272 rfl ?_
  refine to_i (pc := 1273) rw_0_1273 rfl ?_
  refine to_c (pc := 1275) rw_0_1275 (x := (1 : Int32)) rfl rfl ?_
  refine to_2 (pc := 1276) rw_0_1276 (v := (1 : Int32)) (by decide +kernel) ?_
  refine op_x (pc := 1277) rw_0_1277 (k := 1) (by decide +kernel) hx1 ?_
  refine to_an (pc := 1278) rw_0_1278 rfl ?_
  refine to_i (pc := 1279) rw_0_1279 rfl ?_
  refine to_c (pc := 1281) rw_0_1281 (x := (2 : Int32)) rfl rfl ?_
  refine to_2 (pc := 1282) rw_0_1282 (v := (2 : Int32)) (by decide +kernel) ?_
  refine op_x (pc := 1283) rw_0_1283 (k := 2) (by decide +kernel) hx2 ?_
  refine to_an (pc := 1284) rw_0_1284 rfl ?_
  refine to_i (pc := 1285) rw_0_1285 rfl ?_
  refine to_c (pc := 1287) rw_0_1287 (x := (3 : Int32)) rfl rfl ?_
  refine to_2 (pc := 1288) rw_0_1288 (v := (3 : Int32)) (by decide +kernel) ?_
  refine op_x (pc := 1289) rw_0_1289 (k := 3) (by decide +kernel) hx3 ?_
  refine to_v (pc := 1290) rw_0_1290 (hi := rfl) (ls0 := [.ref 0, .int _, .int _, .int _]) rfl (Nat.le_of_ble_eq_true rfl) (Nat.le_of_ble_eq_true rfl) rfl (to_rc rfl rfl rfl fO_fr_M_0_10) rfl ?_
  refine to_in (pc := 0) rw_137_0 rfl ?_
  refine to_s (pc := 1) rw_137_1 (ls0 := [.int _]) rfl (Nat.le_of_ble_eq_true rfl) (Nat.le_of_ble_eq_true rfl) rfl (to_rcs rfl rfl) rfl ?_
  refine to_in (pc := 0) rw_143_0 rfl ?_
  rcases Int.lt_or_le x1.toInt (0) with h1 | h1
  · refine to_ift (pc := 1) rw_143_1 (cd_of (c := .lt) (show x1.toInt < (0 : Int32).toInt from (by have e1 : (0 : Int32).toInt = 0 := rfl; omega))) ?_
    refine to_c (pc := 14) rw_143_14 (x := (0 : Int32)) rfl rfl ?_
    refine to_r1 (pc := 15) rw_143_15 (by decide +kernel) ?_
    refine to_ift (pc := 4) rw_137_4 (by decide +kernel) ?_
    refine to_c (pc := 33) rw_137_33 (x := (-1 : Int32)) rfl rfl ?_
    refine to_r0 (pc := 34) rw_137_34 ?_
    refine to_an (pc := 1293) rw_0_1293 rfl ?_
    refine to_an (pc := 1294) rw_0_1294 rfl ?_
    refine to_i (pc := 1295) rw_0_1295 rfl ?_
    refine to_c (pc := 1297) rw_0_1297 (x := (1 : Int32)) rfl rfl ?_
    refine to_2 (pc := 1298) rw_0_1298 (v := (1 : Int32)) (by decide +kernel) ?_
    refine op_x (pc := 1299) rw_0_1299 (k := 1) (by decide +kernel) hx1 ?_
    refine to_an (pc := 1300) rw_0_1300 rfl ?_
    refine to_i (pc := 1301) rw_0_1301 rfl ?_
    refine to_c (pc := 1303) rw_0_1303 (x := (2 : Int32)) rfl rfl ?_
    refine to_2 (pc := 1304) rw_0_1304 (v := (2 : Int32)) (by decide +kernel) ?_
    refine op_x (pc := 1305) rw_0_1305 (k := 2) (by decide +kernel) hx2 ?_
    refine to_an (pc := 1306) rw_0_1306 rfl ?_
    refine to_i (pc := 1307) rw_0_1307 rfl ?_
    refine to_c (pc := 1309) rw_0_1309 (x := (3 : Int32)) rfl rfl ?_
    refine to_2 (pc := 1310) rw_0_1310 (v := (3 : Int32)) (by decide +kernel) ?_
    refine op_x (pc := 1311) rw_0_1311 (k := 3) (by decide +kernel) hx3 ?_
    refine to_v (pc := 1312) rw_0_1312 (hi := rfl) (ls0 := [.ref 77, .int _, .int _, .int _, .null, .null, .null]) rfl (Nat.le_of_ble_eq_true rfl) (Nat.le_of_ble_eq_true rfl) rfl (to_rc rfl rfl rfl fO_fr_M_77_11) rfl ?_
    refine to_an (pc := 0) rw_245_0 rfl ?_
    refine to_c (pc := 1) rw_245_1 (x := (0 : Int32)) rfl rfl ?_
    refine tt_pI (pc := 2) rw_245_2 fO_fr_M_77_11 ?_
    refine to_in (pc := 5) rw_245_5 rfl ?_
    refine to_s (pc := 6) rw_245_6 (ls0 := [.int _]) rfl (Nat.le_of_ble_eq_true rfl) (Nat.le_of_ble_eq_true rfl) rfl (to_rcs rfl rfl) rfl ?_
    refine to_in (pc := 0) rw_205_0 rfl ?_
    refine to_ift (pc := 1) rw_205_1 (cd_of (c := .lt) (show x1.toInt < (0 : Int32).toInt from (by have e1 : (0 : Int32).toInt = 0 := rfl; omega))) ?_
    refine to_c (pc := 14) rw_205_14 (x := (0 : Int32)) rfl rfl ?_
    refine to_r1 (pc := 15) rw_205_15 (by decide +kernel) ?_
    refine to_ift (pc := 9) rw_245_9 (by decide +kernel) ?_
    refine to_c (pc := 40) rw_245_40 (x := (-1 : Int32)) rfl rfl ?_
    refine to_r0 (pc := 41) rw_245_41 ?_
    refine to_ict (pc := 1315) rw_0_1315 (by decide +kernel) ?_
    exact op_tail (op_c fC_fr_M)
  · refine to_iff (pc := 1) rw_143_1 (cd_no (c := .lt) (show ¬ x1.toInt < (0 : Int32).toInt from (by have e1 : (0 : Int32).toInt = 0 := rfl; omega))) ?_
    refine to_in (pc := 4) rw_143_4 rfl ?_
    refine to_c (pc := 5) rw_143_5 (x := (6 : Int32)) rfl rfl ?_
    rcases Int.lt_or_le x1.toInt (6) with h2 | h2
    · refine to_icf (pc := 7) rw_143_7 (cd_no (c := .ge) (show ¬ x1.toInt ≥ (6 : Int32).toInt from (by have e1 : (6 : Int32).toInt = 6 := rfl; omega))) ?_
      refine to_c (pc := 10) rw_143_10 (x := (1 : Int32)) rfl rfl ?_
      refine to_go (pc := 11) rw_143_11 ?_
      refine to_r1 (pc := 15) rw_143_15 (by decide +kernel) ?_
      refine to_iff (pc := 4) rw_137_4 (by decide +kernel) ?_
      refine to_an (pc := 7) rw_137_7 rfl ?_
      refine tt_gR (pc := 8) rw_137_8 fO_fr_M_0_10 fR_fr_M_0_8 ?_
      refine to_in (pc := 11) rw_137_11 rfl ?_
      refine to_v (pc := 12) rw_137_12 (hi := rfl) (ls0 := [.ref 49, .int _]) rfl (Nat.le_of_ble_eq_true rfl) (Nat.le_of_ble_eq_true rfl) rfl (to_rc rfl rfl rfl fO_fr_M_49_5) rfl ?_
      refine to_in (pc := 0) rw_43_0 rfl ?_
      rcases Int.lt_or_le x2.toInt (0) with h3 | h3
      · refine to_ift (pc := 1) rw_43_1 (cd_of (c := .lt) (show x2.toInt < (0 : Int32).toInt from (by have e1 : (0 : Int32).toInt = 0 := rfl; omega))) ?_
        refine to_c (pc := 16) rw_43_16 (x := (0 : Int32)) rfl rfl ?_
        refine to_r1 (pc := 17) rw_43_17 (by decide +kernel) ?_
        refine to_ift (pc := 15) rw_137_15 (by decide +kernel) ?_
        refine to_c (pc := 33) rw_137_33 (x := (-1 : Int32)) rfl rfl ?_
        refine to_r0 (pc := 34) rw_137_34 ?_
        refine to_an (pc := 1293) rw_0_1293 rfl ?_
        refine to_an (pc := 1294) rw_0_1294 rfl ?_
        refine to_i (pc := 1295) rw_0_1295 rfl ?_
        refine to_c (pc := 1297) rw_0_1297 (x := (1 : Int32)) rfl rfl ?_
        refine to_2 (pc := 1298) rw_0_1298 (v := (1 : Int32)) (by decide +kernel) ?_
        refine op_x (pc := 1299) rw_0_1299 (k := 1) (by decide +kernel) hx1 ?_
        refine to_an (pc := 1300) rw_0_1300 rfl ?_
        refine to_i (pc := 1301) rw_0_1301 rfl ?_
        refine to_c (pc := 1303) rw_0_1303 (x := (2 : Int32)) rfl rfl ?_
        refine to_2 (pc := 1304) rw_0_1304 (v := (2 : Int32)) (by decide +kernel) ?_
        refine op_x (pc := 1305) rw_0_1305 (k := 2) (by decide +kernel) hx2 ?_
        refine to_an (pc := 1306) rw_0_1306 rfl ?_
        refine to_i (pc := 1307) rw_0_1307 rfl ?_
        refine to_c (pc := 1309) rw_0_1309 (x := (3 : Int32)) rfl rfl ?_
        refine to_2 (pc := 1310) rw_0_1310 (v := (3 : Int32)) (by decide +kernel) ?_
        refine op_x (pc := 1311) rw_0_1311 (k := 3) (by decide +kernel) hx3 ?_
        refine to_v (pc := 1312) rw_0_1312 (hi := rfl) (ls0 := [.ref 77, .int _, .int _, .int _, .null, .null, .null]) rfl (Nat.le_of_ble_eq_true rfl) (Nat.le_of_ble_eq_true rfl) rfl (to_rc rfl rfl rfl fO_fr_M_77_11) rfl ?_
        refine to_an (pc := 0) rw_245_0 rfl ?_
        refine to_c (pc := 1) rw_245_1 (x := (0 : Int32)) rfl rfl ?_
        refine tt_pI (pc := 2) rw_245_2 fO_fr_M_77_11 ?_
        refine to_in (pc := 5) rw_245_5 rfl ?_
        refine to_s (pc := 6) rw_245_6 (ls0 := [.int _]) rfl (Nat.le_of_ble_eq_true rfl) (Nat.le_of_ble_eq_true rfl) rfl (to_rcs rfl rfl) rfl ?_
        refine to_in (pc := 0) rw_205_0 rfl ?_
        refine to_iff (pc := 1) rw_205_1 (cd_no (c := .lt) (show ¬ x1.toInt < (0 : Int32).toInt from (by have e1 : (0 : Int32).toInt = 0 := rfl; omega))) ?_
        refine to_in (pc := 4) rw_205_4 rfl ?_
        refine to_c (pc := 5) rw_205_5 (x := (6 : Int32)) rfl rfl ?_
        refine to_icf (pc := 7) rw_205_7 (cd_no (c := .ge) (show ¬ x1.toInt ≥ (6 : Int32).toInt from (by have e1 : (6 : Int32).toInt = 6 := rfl; omega))) ?_
        refine to_c (pc := 10) rw_205_10 (x := (1 : Int32)) rfl rfl ?_
        refine to_go (pc := 11) rw_205_11 ?_
        refine to_r1 (pc := 15) rw_205_15 (by decide +kernel) ?_
        refine to_iff (pc := 9) rw_245_9 (by decide +kernel) ?_
        refine to_an (pc := 12) rw_245_12 rfl ?_
        refine to_in (pc := 13) rw_245_13 rfl ?_
        refine to_v (pc := 14) rw_245_14 (hi := rfl) (ls0 := [.ref 77, .int _]) rfl (Nat.le_of_ble_eq_true rfl) (Nat.le_of_ble_eq_true rfl) rfl (to_rc rfl rfl rfl fO_fr_M_77_11) rfl ?_
        refine to_an (pc := 0) rw_179_0 rfl ?_
        refine to_in (pc := 1) rw_179_1 rfl ?_
        refine to_v (pc := 2) rw_179_2 (hi := rfl) (ls0 := [.ref 77, .int _]) rfl (Nat.le_of_ble_eq_true rfl) (Nat.le_of_ble_eq_true rfl) rfl (to_rc rfl rfl rfl fO_fr_M_77_11) rfl ?_
        refine to_in (pc := 0) rw_178_0 rfl ?_
        refine to_ift (pc := 1) rw_178_1 (cd_of (c := .lt) (show x2.toInt < (0 : Int32).toInt from (by have e1 : (0 : Int32).toInt = 0 := rfl; omega))) ?_
        refine to_c (pc := 16) rw_178_16 (x := (0 : Int32)) rfl rfl ?_
        refine to_r1 (pc := 17) rw_178_17 (by decide +kernel) ?_
        refine to_ift (pc := 5) rw_179_5 (by decide +kernel) ?_
        refine to_c (pc := 22) rw_179_22 (x := (0 : Int32)) rfl rfl ?_
        refine to_r1 (pc := 23) rw_179_23 (by decide +kernel) ?_
        refine to_ift (pc := 17) rw_245_17 (by decide +kernel) ?_
        refine to_c (pc := 40) rw_245_40 (x := (-1 : Int32)) rfl rfl ?_
        refine to_r0 (pc := 41) rw_245_41 ?_
        refine to_ict (pc := 1315) rw_0_1315 (by decide +kernel) ?_
        exact op_tail (op_c fC_fr_M)
      · refine to_iff (pc := 1) rw_43_1 (cd_no (c := .lt) (show ¬ x2.toInt < (0 : Int32).toInt from (by have e1 : (0 : Int32).toInt = 0 := rfl; omega))) ?_
        refine to_in (pc := 4) rw_43_4 rfl ?_
        refine to_an (pc := 5) rw_43_5 rfl ?_
        refine tt_gI (pc := 6) rw_43_6 fO_fr_M_49_5 fI_fr_M_49_2 ?_
        refine to_ict (pc := 9) rw_43_9 (cd_of (c := .ge) (show x2.toInt ≥ (0 : Int32).toInt from (by have e1 : (0 : Int32).toInt = 0 := rfl; omega))) ?_
        refine to_c (pc := 16) rw_43_16 (x := (0 : Int32)) rfl rfl ?_
        refine to_r1 (pc := 17) rw_43_17 (by decide +kernel) ?_
        refine to_ift (pc := 15) rw_137_15 (by decide +kernel) ?_
        refine to_c (pc := 33) rw_137_33 (x := (-1 : Int32)) rfl rfl ?_
        refine to_r0 (pc := 34) rw_137_34 ?_
        refine to_an (pc := 1293) rw_0_1293 rfl ?_
        refine to_an (pc := 1294) rw_0_1294 rfl ?_
        refine to_i (pc := 1295) rw_0_1295 rfl ?_
        refine to_c (pc := 1297) rw_0_1297 (x := (1 : Int32)) rfl rfl ?_
        refine to_2 (pc := 1298) rw_0_1298 (v := (1 : Int32)) (by decide +kernel) ?_
        refine op_x (pc := 1299) rw_0_1299 (k := 1) (by decide +kernel) hx1 ?_
        refine to_an (pc := 1300) rw_0_1300 rfl ?_
        refine to_i (pc := 1301) rw_0_1301 rfl ?_
        refine to_c (pc := 1303) rw_0_1303 (x := (2 : Int32)) rfl rfl ?_
        refine to_2 (pc := 1304) rw_0_1304 (v := (2 : Int32)) (by decide +kernel) ?_
        refine op_x (pc := 1305) rw_0_1305 (k := 2) (by decide +kernel) hx2 ?_
        refine to_an (pc := 1306) rw_0_1306 rfl ?_
        refine to_i (pc := 1307) rw_0_1307 rfl ?_
        refine to_c (pc := 1309) rw_0_1309 (x := (3 : Int32)) rfl rfl ?_
        refine to_2 (pc := 1310) rw_0_1310 (v := (3 : Int32)) (by decide +kernel) ?_
        refine op_x (pc := 1311) rw_0_1311 (k := 3) (by decide +kernel) hx3 ?_
        refine to_v (pc := 1312) rw_0_1312 (hi := rfl) (ls0 := [.ref 77, .int _, .int _, .int _, .null, .null, .null]) rfl (Nat.le_of_ble_eq_true rfl) (Nat.le_of_ble_eq_true rfl) rfl (to_rc rfl rfl rfl fO_fr_M_77_11) rfl ?_
        refine to_an (pc := 0) rw_245_0 rfl ?_
        refine to_c (pc := 1) rw_245_1 (x := (0 : Int32)) rfl rfl ?_
        refine tt_pI (pc := 2) rw_245_2 fO_fr_M_77_11 ?_
        refine to_in (pc := 5) rw_245_5 rfl ?_
        refine to_s (pc := 6) rw_245_6 (ls0 := [.int _]) rfl (Nat.le_of_ble_eq_true rfl) (Nat.le_of_ble_eq_true rfl) rfl (to_rcs rfl rfl) rfl ?_
        refine to_in (pc := 0) rw_205_0 rfl ?_
        refine to_iff (pc := 1) rw_205_1 (cd_no (c := .lt) (show ¬ x1.toInt < (0 : Int32).toInt from (by have e1 : (0 : Int32).toInt = 0 := rfl; omega))) ?_
        refine to_in (pc := 4) rw_205_4 rfl ?_
        refine to_c (pc := 5) rw_205_5 (x := (6 : Int32)) rfl rfl ?_
        refine to_icf (pc := 7) rw_205_7 (cd_no (c := .ge) (show ¬ x1.toInt ≥ (6 : Int32).toInt from (by have e1 : (6 : Int32).toInt = 6 := rfl; omega))) ?_
        refine to_c (pc := 10) rw_205_10 (x := (1 : Int32)) rfl rfl ?_
        refine to_go (pc := 11) rw_205_11 ?_
        refine to_r1 (pc := 15) rw_205_15 (by decide +kernel) ?_
        refine to_iff (pc := 9) rw_245_9 (by decide +kernel) ?_
        refine to_an (pc := 12) rw_245_12 rfl ?_
        refine to_in (pc := 13) rw_245_13 rfl ?_
        refine to_v (pc := 14) rw_245_14 (hi := rfl) (ls0 := [.ref 77, .int _]) rfl (Nat.le_of_ble_eq_true rfl) (Nat.le_of_ble_eq_true rfl) rfl (to_rc rfl rfl rfl fO_fr_M_77_11) rfl ?_
        refine to_an (pc := 0) rw_179_0 rfl ?_
        refine to_in (pc := 1) rw_179_1 rfl ?_
        refine to_v (pc := 2) rw_179_2 (hi := rfl) (ls0 := [.ref 77, .int _]) rfl (Nat.le_of_ble_eq_true rfl) (Nat.le_of_ble_eq_true rfl) rfl (to_rc rfl rfl rfl fO_fr_M_77_11) rfl ?_
        refine to_in (pc := 0) rw_178_0 rfl ?_
        refine to_iff (pc := 1) rw_178_1 (cd_no (c := .lt) (show ¬ x2.toInt < (0 : Int32).toInt from (by have e1 : (0 : Int32).toInt = 0 := rfl; omega))) ?_
        refine to_in (pc := 4) rw_178_4 rfl ?_
        refine to_an (pc := 5) rw_178_5 rfl ?_
        refine tt_gI (pc := 6) rw_178_6 fO_fr_M_77_11 (rI_n rfl fI_fr_M_77_12) ?_
        refine to_ict (pc := 9) rw_178_9 (cd_of (c := .ge) (show x2.toInt ≥ (0 : Int32).toInt from (by have e1 : (0 : Int32).toInt = 0 := rfl; omega))) ?_
        refine to_c (pc := 16) rw_178_16 (x := (0 : Int32)) rfl rfl ?_
        refine to_r1 (pc := 17) rw_178_17 (by decide +kernel) ?_
        refine to_ift (pc := 5) rw_179_5 (by decide +kernel) ?_
        refine to_c (pc := 22) rw_179_22 (x := (0 : Int32)) rfl rfl ?_
        refine to_r1 (pc := 23) rw_179_23 (by decide +kernel) ?_
        refine to_ift (pc := 17) rw_245_17 (by decide +kernel) ?_
        refine to_c (pc := 40) rw_245_40 (x := (-1 : Int32)) rfl rfl ?_
        refine to_r0 (pc := 41) rw_245_41 ?_
        refine to_ict (pc := 1315) rw_0_1315 (by decide +kernel) ?_
        exact op_tail (op_c fC_fr_M)
    · refine to_ict (pc := 7) rw_143_7 (cd_of (c := .ge) (show x1.toInt ≥ (6 : Int32).toInt from (by have e1 : (6 : Int32).toInt = 6 := rfl; omega))) ?_
      refine to_c (pc := 14) rw_143_14 (x := (0 : Int32)) rfl rfl ?_
      refine to_r1 (pc := 15) rw_143_15 (by decide +kernel) ?_
      refine to_ift (pc := 4) rw_137_4 (by decide +kernel) ?_
      refine to_c (pc := 33) rw_137_33 (x := (-1 : Int32)) rfl rfl ?_
      refine to_r0 (pc := 34) rw_137_34 ?_
      refine to_an (pc := 1293) rw_0_1293 rfl ?_
      refine to_an (pc := 1294) rw_0_1294 rfl ?_
      refine to_i (pc := 1295) rw_0_1295 rfl ?_
      refine to_c (pc := 1297) rw_0_1297 (x := (1 : Int32)) rfl rfl ?_
      refine to_2 (pc := 1298) rw_0_1298 (v := (1 : Int32)) (by decide +kernel) ?_
      refine op_x (pc := 1299) rw_0_1299 (k := 1) (by decide +kernel) hx1 ?_
      refine to_an (pc := 1300) rw_0_1300 rfl ?_
      refine to_i (pc := 1301) rw_0_1301 rfl ?_
      refine to_c (pc := 1303) rw_0_1303 (x := (2 : Int32)) rfl rfl ?_
      refine to_2 (pc := 1304) rw_0_1304 (v := (2 : Int32)) (by decide +kernel) ?_
      refine op_x (pc := 1305) rw_0_1305 (k := 2) (by decide +kernel) hx2 ?_
      refine to_an (pc := 1306) rw_0_1306 rfl ?_
      refine to_i (pc := 1307) rw_0_1307 rfl ?_
      refine to_c (pc := 1309) rw_0_1309 (x := (3 : Int32)) rfl rfl ?_
      refine to_2 (pc := 1310) rw_0_1310 (v := (3 : Int32)) (by decide +kernel) ?_
      refine op_x (pc := 1311) rw_0_1311 (k := 3) (by decide +kernel) hx3 ?_
      refine to_v (pc := 1312) rw_0_1312 (hi := rfl) (ls0 := [.ref 77, .int _, .int _, .int _, .null, .null, .null]) rfl (Nat.le_of_ble_eq_true rfl) (Nat.le_of_ble_eq_true rfl) rfl (to_rc rfl rfl rfl fO_fr_M_77_11) rfl ?_
      refine to_an (pc := 0) rw_245_0 rfl ?_
      refine to_c (pc := 1) rw_245_1 (x := (0 : Int32)) rfl rfl ?_
      refine tt_pI (pc := 2) rw_245_2 fO_fr_M_77_11 ?_
      refine to_in (pc := 5) rw_245_5 rfl ?_
      refine to_s (pc := 6) rw_245_6 (ls0 := [.int _]) rfl (Nat.le_of_ble_eq_true rfl) (Nat.le_of_ble_eq_true rfl) rfl (to_rcs rfl rfl) rfl ?_
      refine to_in (pc := 0) rw_205_0 rfl ?_
      refine to_iff (pc := 1) rw_205_1 (cd_no (c := .lt) (show ¬ x1.toInt < (0 : Int32).toInt from (by have e1 : (0 : Int32).toInt = 0 := rfl; omega))) ?_
      refine to_in (pc := 4) rw_205_4 rfl ?_
      refine to_c (pc := 5) rw_205_5 (x := (6 : Int32)) rfl rfl ?_
      refine to_ict (pc := 7) rw_205_7 (cd_of (c := .ge) (show x1.toInt ≥ (6 : Int32).toInt from (by have e1 : (6 : Int32).toInt = 6 := rfl; omega))) ?_
      refine to_c (pc := 14) rw_205_14 (x := (0 : Int32)) rfl rfl ?_
      refine to_r1 (pc := 15) rw_205_15 (by decide +kernel) ?_
      refine to_ift (pc := 9) rw_245_9 (by decide +kernel) ?_
      refine to_c (pc := 40) rw_245_40 (x := (-1 : Int32)) rfl rfl ?_
      refine to_r0 (pc := 41) rw_245_41 ?_
      refine to_ict (pc := 1315) rw_0_1315 (by decide +kernel) ?_
      exact op_tail (op_c fC_fr_M)
set_option maxHeartbeats 0 in
set_option maxRecDepth 4000 in
theorem op_29 {fr_M fr_1 fr_2 fr_3 fr_4 fr_5 fr_6 fr_7 fr_8 fr_9 fr_10 fr_11 fr_12 : mm_M} (HM : fr_Eq fr_M fr_1 fr_2 fr_3 fr_4 fr_5 fr_6 fr_7 fr_8 fr_9 fr_10 fr_11 fr_12) {xs : Nat → Int32} {x1 x2 x3 x4 x5 : Int32} (hx1 : xs 1 = x1) (hx2 : xs 2 = x2) (hx3 : xs 3 = x3) (hx4 : xs 4 = x4) (hx5 : xs 5 = x5) : mm_T (fr_X 6 xs) 40 0 1320 [.ref mm_ext, .ref 0, .ref 77, .ref 125, .int 0, .null, .null] [] fr_M op_Q := by
  have z0 : (0 : Int32).toInt = 0 := rfl
  have fC_fr_M := fC_fr_M HM
  have fI_fr_M_0_12 := fI_fr_M_0_12 HM
  have fI_fr_M_28_8 := fI_fr_M_28_8 HM
  have fI_fr_M_28_9 := fI_fr_M_28_9 HM
  have fI_fr_M_49_0 := fI_fr_M_49_0 HM
  have fI_fr_M_49_2 := fI_fr_M_49_2 HM
  have fI_fr_M_49_3 := fI_fr_M_49_3 HM
  have fI_fr_M_67_4 := fI_fr_M_67_4 HM
  have fI_fr_M_6_0 := fI_fr_M_6_0 HM
  have fI_fr_M_77_11 := fI_fr_M_77_11 HM
  have fI_fr_M_77_12 := fI_fr_M_77_12 HM
  have fI_fr_M_77_13 := fI_fr_M_77_13 HM
  have fI_fr_M_77_28 := fI_fr_M_77_28 HM
  have fI_fr_M_77_29 := fI_fr_M_77_29 HM
  have fI_fr_M_77_42 := fI_fr_M_77_42 HM
  have fI_fr_M_77_43 := fI_fr_M_77_43 HM
  have fI_fr_M_77_58 := fI_fr_M_77_58 HM
  have fO_fr_M_0_10 := fO_fr_M_0_10 HM
  have fO_fr_M_28_9 := fO_fr_M_28_9 HM
  have fO_fr_M_49_5 := fO_fr_M_49_5 HM
  have fO_fr_M_67_6 := fO_fr_M_67_6 HM
  have fO_fr_M_6_3 := fO_fr_M_6_3 HM
  have fO_fr_M_77_11 := fO_fr_M_77_11 HM
  have fR_fr_M_0_1 := fR_fr_M_0_1 HM
  have fR_fr_M_0_10 := fR_fr_M_0_10 HM
  have fR_fr_M_0_4 := fR_fr_M_0_4 HM
  have fR_fr_M_0_8 := fR_fr_M_0_8 HM
  refine to_an (pc := 1320) rw_0_1320 rfl ?_
  refine to_an (pc := 1321) rw_0_1321 rfl ?_
  refine to_i (pc := 1322) rw_0_1322 rfl ?_
  refine to_c (pc := 1324) rw_0_1324 (x := (1 : Int32)) rfl rfl ?_
  refine to_2 (pc := 1325) rw_0_1325 (v := (1 : Int32)) (by decide +kernel) ?_
  refine op_x (pc := 1326) rw_0_1326 (k := 1) (by decide +kernel) hx1 ?_
  refine to_v (pc := 1327) rw_0_1327 (hi := rfl) (ls0 := [.ref 0, .int _]) rfl (Nat.le_of_ble_eq_true rfl) (Nat.le_of_ble_eq_true rfl) rfl (to_rc rfl rfl rfl fO_fr_M_0_10) rfl ?_
  refine to_in (pc := 0) rw_138_0 rfl ?_
  by_cases h1 : x1 = (0 : Int32)
  · subst h1
    refine to_sw (pc := 1) rw_138_1 (t := 48) (by decide +kernel) (by decide +kernel) ?_
    refine to_an (pc := 48) rw_138_48 rfl ?_
    refine tt_gR (pc := 49) rw_138_49 fO_fr_M_0_10 fR_fr_M_0_8 ?_
    refine tt_gI (pc := 52) rw_138_52 fO_fr_M_49_5 fI_fr_M_49_0 ?_
    refine to_r0 (pc := 55) rw_138_55 ?_
    refine to_an (pc := 1330) rw_0_1330 rfl ?_
    refine to_an (pc := 1331) rw_0_1331 rfl ?_
    refine to_i (pc := 1332) rw_0_1332 rfl ?_
    refine to_c (pc := 1334) rw_0_1334 (x := (1 : Int32)) rfl rfl ?_
    refine to_2 (pc := 1335) rw_0_1335 (v := (1 : Int32)) (by decide +kernel) ?_
    refine op_x (pc := 1336) rw_0_1336 (k := 1) (by decide +kernel) hx1 ?_
    refine to_v (pc := 1337) rw_0_1337 (hi := rfl) (ls0 := [.ref 77, .int (0 : Int32)]) rfl (Nat.le_of_ble_eq_true rfl) (Nat.le_of_ble_eq_true rfl) rfl (to_rc rfl rfl rfl fO_fr_M_77_11) rfl ?_
    refine to_an (pc := 0) rw_246_0 rfl ?_
    refine to_c (pc := 1) rw_246_1 (x := (0 : Int32)) rfl rfl ?_
    refine tt_pI (pc := 2) rw_246_2 fO_fr_M_77_11 ?_
    refine to_in (pc := 5) rw_246_5 rfl ?_
    refine to_sw (pc := 6) rw_246_6 (t := 52) (by decide +kernel) (by decide +kernel) ?_
    refine to_an (pc := 52) rw_246_52 rfl ?_
    refine tt_gI (pc := 53) rw_246_53 fO_fr_M_77_11 (rI_n rfl fI_fr_M_77_11) ?_
    refine to_r0 (pc := 56) rw_246_56 ?_
    refine to_ict (pc := 1340) rw_0_1340 (by decide +kernel) ?_
    exact op_tail (op_c fC_fr_M)
  · have h1 := cd_ne h1
    by_cases h2 : x1 = (1 : Int32)
    · subst h2
      refine to_sw (pc := 1) rw_138_1 (t := 56) (by decide +kernel) (by decide +kernel) ?_
      refine to_an (pc := 56) rw_138_56 rfl ?_
      refine tt_gR (pc := 57) rw_138_57 fO_fr_M_0_10 fR_fr_M_0_8 ?_
      refine tt_gI (pc := 60) rw_138_60 fO_fr_M_49_5 fI_fr_M_49_2 ?_
      refine to_r0 (pc := 63) rw_138_63 ?_
      refine to_an (pc := 1330) rw_0_1330 rfl ?_
      refine to_an (pc := 1331) rw_0_1331 rfl ?_
      refine to_i (pc := 1332) rw_0_1332 rfl ?_
      refine to_c (pc := 1334) rw_0_1334 (x := (1 : Int32)) rfl rfl ?_
      refine to_2 (pc := 1335) rw_0_1335 (v := (1 : Int32)) (by decide +kernel) ?_
      refine op_x (pc := 1336) rw_0_1336 (k := 1) (by decide +kernel) hx1 ?_
      refine to_v (pc := 1337) rw_0_1337 (hi := rfl) (ls0 := [.ref 77, .int (1 : Int32)]) rfl (Nat.le_of_ble_eq_true rfl) (Nat.le_of_ble_eq_true rfl) rfl (to_rc rfl rfl rfl fO_fr_M_77_11) rfl ?_
      refine to_an (pc := 0) rw_246_0 rfl ?_
      refine to_c (pc := 1) rw_246_1 (x := (0 : Int32)) rfl rfl ?_
      refine tt_pI (pc := 2) rw_246_2 fO_fr_M_77_11 ?_
      refine to_in (pc := 5) rw_246_5 rfl ?_
      refine to_sw (pc := 6) rw_246_6 (t := 57) (by decide +kernel) (by decide +kernel) ?_
      refine to_an (pc := 57) rw_246_57 rfl ?_
      refine tt_gI (pc := 58) rw_246_58 fO_fr_M_77_11 (rI_n rfl fI_fr_M_77_12) ?_
      refine to_r0 (pc := 61) rw_246_61 ?_
      refine to_ict (pc := 1340) rw_0_1340 (by decide +kernel) ?_
      exact op_tail (op_c fC_fr_M)
    · have h2 := cd_ne h2
      by_cases h3 : x1 = (2 : Int32)
      · subst h3
        refine to_sw (pc := 1) rw_138_1 (t := 64) (by decide +kernel) (by decide +kernel) ?_
        refine to_an (pc := 64) rw_138_64 rfl ?_
        refine tt_gR (pc := 65) rw_138_65 fO_fr_M_0_10 fR_fr_M_0_8 ?_
        refine tt_gI (pc := 68) rw_138_68 fO_fr_M_49_5 fI_fr_M_49_3 ?_
        refine to_r0 (pc := 71) rw_138_71 ?_
        refine to_an (pc := 1330) rw_0_1330 rfl ?_
        refine to_an (pc := 1331) rw_0_1331 rfl ?_
        refine to_i (pc := 1332) rw_0_1332 rfl ?_
        refine to_c (pc := 1334) rw_0_1334 (x := (1 : Int32)) rfl rfl ?_
        refine to_2 (pc := 1335) rw_0_1335 (v := (1 : Int32)) (by decide +kernel) ?_
        refine op_x (pc := 1336) rw_0_1336 (k := 1) (by decide +kernel) hx1 ?_
        refine to_v (pc := 1337) rw_0_1337 (hi := rfl) (ls0 := [.ref 77, .int (2 : Int32)]) rfl (Nat.le_of_ble_eq_true rfl) (Nat.le_of_ble_eq_true rfl) rfl (to_rc rfl rfl rfl fO_fr_M_77_11) rfl ?_
        refine to_an (pc := 0) rw_246_0 rfl ?_
        refine to_c (pc := 1) rw_246_1 (x := (0 : Int32)) rfl rfl ?_
        refine tt_pI (pc := 2) rw_246_2 fO_fr_M_77_11 ?_
        refine to_in (pc := 5) rw_246_5 rfl ?_
        refine to_sw (pc := 6) rw_246_6 (t := 62) (by decide +kernel) (by decide +kernel) ?_
        refine to_an (pc := 62) rw_246_62 rfl ?_
        refine tt_gI (pc := 63) rw_246_63 fO_fr_M_77_11 (rI_n rfl fI_fr_M_77_13) ?_
        refine to_r0 (pc := 66) rw_246_66 ?_
        refine to_ict (pc := 1340) rw_0_1340 (by decide +kernel) ?_
        exact op_tail (op_c fC_fr_M)
      · have h3 := cd_ne h3
        by_cases h4 : x1 = (3 : Int32)
        · subst h4
          refine to_sw (pc := 1) rw_138_1 (t := 72) (by decide +kernel) (by decide +kernel) ?_
          refine to_an (pc := 72) rw_138_72 rfl ?_
          refine tt_gI (pc := 73) rw_138_73 fO_fr_M_0_10 fI_fr_M_0_12 ?_
          refine to_r0 (pc := 76) rw_138_76 ?_
          refine to_an (pc := 1330) rw_0_1330 rfl ?_
          refine to_an (pc := 1331) rw_0_1331 rfl ?_
          refine to_i (pc := 1332) rw_0_1332 rfl ?_
          refine to_c (pc := 1334) rw_0_1334 (x := (1 : Int32)) rfl rfl ?_
          refine to_2 (pc := 1335) rw_0_1335 (v := (1 : Int32)) (by decide +kernel) ?_
          refine op_x (pc := 1336) rw_0_1336 (k := 1) (by decide +kernel) hx1 ?_
          refine to_v (pc := 1337) rw_0_1337 (hi := rfl) (ls0 := [.ref 77, .int (3 : Int32)]) rfl (Nat.le_of_ble_eq_true rfl) (Nat.le_of_ble_eq_true rfl) rfl (to_rc rfl rfl rfl fO_fr_M_77_11) rfl ?_
          refine to_an (pc := 0) rw_246_0 rfl ?_
          refine to_c (pc := 1) rw_246_1 (x := (0 : Int32)) rfl rfl ?_
          refine tt_pI (pc := 2) rw_246_2 fO_fr_M_77_11 ?_
          refine to_in (pc := 5) rw_246_5 rfl ?_
          refine to_sw (pc := 6) rw_246_6 (t := 67) (by decide +kernel) (by decide +kernel) ?_
          refine to_an (pc := 67) rw_246_67 rfl ?_
          refine tt_gI (pc := 68) rw_246_68 fO_fr_M_77_11 (rI_n rfl fI_fr_M_77_28) ?_
          refine to_r0 (pc := 71) rw_246_71 ?_
          refine to_ict (pc := 1340) rw_0_1340 (by decide +kernel) ?_
          exact op_tail (op_c fC_fr_M)
        · have h4 := cd_ne h4
          by_cases h5 : x1 = (4 : Int32)
          · subst h5
            refine to_sw (pc := 1) rw_138_1 (t := 77) (by decide +kernel) (by decide +kernel) ?_
            refine to_an (pc := 77) rw_138_77 rfl ?_
            refine tt_gR (pc := 78) rw_138_78 fO_fr_M_0_10 fR_fr_M_0_1 ?_
            refine tt_gI (pc := 81) rw_138_81 fO_fr_M_6_3 fI_fr_M_6_0 ?_
            refine to_r0 (pc := 84) rw_138_84 ?_
            refine to_an (pc := 1330) rw_0_1330 rfl ?_
            refine to_an (pc := 1331) rw_0_1331 rfl ?_
            refine to_i (pc := 1332) rw_0_1332 rfl ?_
            refine to_c (pc := 1334) rw_0_1334 (x := (1 : Int32)) rfl rfl ?_
            refine to_2 (pc := 1335) rw_0_1335 (v := (1 : Int32)) (by decide +kernel) ?_
            refine op_x (pc := 1336) rw_0_1336 (k := 1) (by decide +kernel) hx1 ?_
            refine to_v (pc := 1337) rw_0_1337 (hi := rfl) (ls0 := [.ref 77, .int (4 : Int32)]) rfl (Nat.le_of_ble_eq_true rfl) (Nat.le_of_ble_eq_true rfl) rfl (to_rc rfl rfl rfl fO_fr_M_77_11) rfl ?_
            refine to_an (pc := 0) rw_246_0 rfl ?_
            refine to_c (pc := 1) rw_246_1 (x := (0 : Int32)) rfl rfl ?_
            refine tt_pI (pc := 2) rw_246_2 fO_fr_M_77_11 ?_
            refine to_in (pc := 5) rw_246_5 rfl ?_
            refine to_sw (pc := 6) rw_246_6 (t := 72) (by decide +kernel) (by decide +kernel) ?_
            refine to_an (pc := 72) rw_246_72 rfl ?_
            refine tt_gI (pc := 73) rw_246_73 fO_fr_M_77_11 (rI_n rfl fI_fr_M_77_29) ?_
            refine to_r0 (pc := 76) rw_246_76 ?_
            refine to_ict (pc := 1340) rw_0_1340 (by decide +kernel) ?_
            exact op_tail (op_c fC_fr_M)
          · have h5 := cd_ne h5
            by_cases h6 : x1 = (5 : Int32)
            · subst h6
              refine to_sw (pc := 1) rw_138_1 (t := 85) (by decide +kernel) (by decide +kernel) ?_
              refine to_an (pc := 85) rw_138_85 rfl ?_
              refine tt_gR (pc := 86) rw_138_86 fO_fr_M_0_10 fR_fr_M_0_10 ?_
              refine tt_gI (pc := 89) rw_138_89 fO_fr_M_67_6 fI_fr_M_67_4 ?_
              refine to_r0 (pc := 92) rw_138_92 ?_
              refine to_an (pc := 1330) rw_0_1330 rfl ?_
              refine to_an (pc := 1331) rw_0_1331 rfl ?_
              refine to_i (pc := 1332) rw_0_1332 rfl ?_
              refine to_c (pc := 1334) rw_0_1334 (x := (1 : Int32)) rfl rfl ?_
              refine to_2 (pc := 1335) rw_0_1335 (v := (1 : Int32)) (by decide +kernel) ?_
              refine op_x (pc := 1336) rw_0_1336 (k := 1) (by decide +kernel) hx1 ?_
              refine to_v (pc := 1337) rw_0_1337 (hi := rfl) (ls0 := [.ref 77, .int (5 : Int32)]) rfl (Nat.le_of_ble_eq_true rfl) (Nat.le_of_ble_eq_true rfl) rfl (to_rc rfl rfl rfl fO_fr_M_77_11) rfl ?_
              refine to_an (pc := 0) rw_246_0 rfl ?_
              refine to_c (pc := 1) rw_246_1 (x := (0 : Int32)) rfl rfl ?_
              refine tt_pI (pc := 2) rw_246_2 fO_fr_M_77_11 ?_
              refine to_in (pc := 5) rw_246_5 rfl ?_
              refine to_sw (pc := 6) rw_246_6 (t := 77) (by decide +kernel) (by decide +kernel) ?_
              refine to_an (pc := 77) rw_246_77 rfl ?_
              refine tt_gI (pc := 78) rw_246_78 fO_fr_M_77_11 (rI_n rfl fI_fr_M_77_58) ?_
              refine to_r0 (pc := 81) rw_246_81 ?_
              refine to_ict (pc := 1340) rw_0_1340 (by decide +kernel) ?_
              exact op_tail (op_c fC_fr_M)
            · have h6 := cd_ne h6
              by_cases h7 : x1 = (6 : Int32)
              · subst h7
                refine to_sw (pc := 1) rw_138_1 (t := 93) (by decide +kernel) (by decide +kernel) ?_
                refine to_an (pc := 93) rw_138_93 rfl ?_
                refine tt_gR (pc := 94) rw_138_94 fO_fr_M_0_10 fR_fr_M_0_4 ?_
                refine tt_gI (pc := 97) rw_138_97 fO_fr_M_28_9 fI_fr_M_28_9 ?_
                refine to_r0 (pc := 100) rw_138_100 ?_
                refine to_an (pc := 1330) rw_0_1330 rfl ?_
                refine to_an (pc := 1331) rw_0_1331 rfl ?_
                refine to_i (pc := 1332) rw_0_1332 rfl ?_
                refine to_c (pc := 1334) rw_0_1334 (x := (1 : Int32)) rfl rfl ?_
                refine to_2 (pc := 1335) rw_0_1335 (v := (1 : Int32)) (by decide +kernel) ?_
                refine op_x (pc := 1336) rw_0_1336 (k := 1) (by decide +kernel) hx1 ?_
                refine to_v (pc := 1337) rw_0_1337 (hi := rfl) (ls0 := [.ref 77, .int (6 : Int32)]) rfl (Nat.le_of_ble_eq_true rfl) (Nat.le_of_ble_eq_true rfl) rfl (to_rc rfl rfl rfl fO_fr_M_77_11) rfl ?_
                refine to_an (pc := 0) rw_246_0 rfl ?_
                refine to_c (pc := 1) rw_246_1 (x := (0 : Int32)) rfl rfl ?_
                refine tt_pI (pc := 2) rw_246_2 fO_fr_M_77_11 ?_
                refine to_in (pc := 5) rw_246_5 rfl ?_
                refine to_sw (pc := 6) rw_246_6 (t := 82) (by decide +kernel) (by decide +kernel) ?_
                refine to_an (pc := 82) rw_246_82 rfl ?_
                refine tt_gI (pc := 83) rw_246_83 fO_fr_M_77_11 (rI_n rfl fI_fr_M_77_42) ?_
                refine to_r0 (pc := 86) rw_246_86 ?_
                refine to_ict (pc := 1340) rw_0_1340 (by decide +kernel) ?_
                exact op_tail (op_c fC_fr_M)
              · have h7 := cd_ne h7
                by_cases h8 : x1 = (7 : Int32)
                · subst h8
                  refine to_sw (pc := 1) rw_138_1 (t := 101) (by decide +kernel) (by decide +kernel) ?_
                  refine to_an (pc := 101) rw_138_101 rfl ?_
                  refine tt_gR (pc := 102) rw_138_102 fO_fr_M_0_10 fR_fr_M_0_4 ?_
                  refine tt_gI (pc := 105) rw_138_105 fO_fr_M_28_9 fI_fr_M_28_8 ?_
                  refine to_r0 (pc := 108) rw_138_108 ?_
                  refine to_an (pc := 1330) rw_0_1330 rfl ?_
                  refine to_an (pc := 1331) rw_0_1331 rfl ?_
                  refine to_i (pc := 1332) rw_0_1332 rfl ?_
                  refine to_c (pc := 1334) rw_0_1334 (x := (1 : Int32)) rfl rfl ?_
                  refine to_2 (pc := 1335) rw_0_1335 (v := (1 : Int32)) (by decide +kernel) ?_
                  refine op_x (pc := 1336) rw_0_1336 (k := 1) (by decide +kernel) hx1 ?_
                  refine to_v (pc := 1337) rw_0_1337 (hi := rfl) (ls0 := [.ref 77, .int (7 : Int32)]) rfl (Nat.le_of_ble_eq_true rfl) (Nat.le_of_ble_eq_true rfl) rfl (to_rc rfl rfl rfl fO_fr_M_77_11) rfl ?_
                  refine to_an (pc := 0) rw_246_0 rfl ?_
                  refine to_c (pc := 1) rw_246_1 (x := (0 : Int32)) rfl rfl ?_
                  refine tt_pI (pc := 2) rw_246_2 fO_fr_M_77_11 ?_
                  refine to_in (pc := 5) rw_246_5 rfl ?_
                  refine to_sw (pc := 6) rw_246_6 (t := 87) (by decide +kernel) (by decide +kernel) ?_
                  refine to_an (pc := 87) rw_246_87 rfl ?_
                  refine tt_gI (pc := 88) rw_246_88 fO_fr_M_77_11 (rI_n rfl fI_fr_M_77_43) ?_
                  refine to_r0 (pc := 91) rw_246_91 ?_
                  refine to_ict (pc := 1340) rw_0_1340 (by decide +kernel) ?_
                  exact op_tail (op_c fC_fr_M)
                · have h8 := cd_ne h8
                  refine to_swd (pc := 1) rw_138_1 (show x1.toInt < 0 ∨ 7 < x1.toInt from (by have e0 : (0 : Int32).toInt = 0 := rfl; have e1 : (1 : Int32).toInt = 1 := rfl; have e2 : (2 : Int32).toInt = 2 := rfl; have e3 : (3 : Int32).toInt = 3 := rfl; have e4 : (4 : Int32).toInt = 4 := rfl; have e5 : (5 : Int32).toInt = 5 := rfl; have e6 : (6 : Int32).toInt = 6 := rfl; have e7 : (7 : Int32).toInt = 7 := rfl; omega)) ?_
                  refine to_c (pc := 109) rw_138_109 (x := (-1 : Int32)) rfl rfl ?_
                  refine to_r0 (pc := 110) rw_138_110 ?_
                  refine to_an (pc := 1330) rw_0_1330 rfl ?_
                  refine to_an (pc := 1331) rw_0_1331 rfl ?_
                  refine to_i (pc := 1332) rw_0_1332 rfl ?_
                  refine to_c (pc := 1334) rw_0_1334 (x := (1 : Int32)) rfl rfl ?_
                  refine to_2 (pc := 1335) rw_0_1335 (v := (1 : Int32)) (by decide +kernel) ?_
                  refine op_x (pc := 1336) rw_0_1336 (k := 1) (by decide +kernel) hx1 ?_
                  refine to_v (pc := 1337) rw_0_1337 (hi := rfl) (ls0 := [.ref 77, .int _]) rfl (Nat.le_of_ble_eq_true rfl) (Nat.le_of_ble_eq_true rfl) rfl (to_rc rfl rfl rfl fO_fr_M_77_11) rfl ?_
                  refine to_an (pc := 0) rw_246_0 rfl ?_
                  refine to_c (pc := 1) rw_246_1 (x := (0 : Int32)) rfl rfl ?_
                  refine tt_pI (pc := 2) rw_246_2 fO_fr_M_77_11 ?_
                  refine to_in (pc := 5) rw_246_5 rfl ?_
                  refine to_swd (pc := 6) rw_246_6 (show x1.toInt < 0 ∨ 7 < x1.toInt from (by have e0 : (0 : Int32).toInt = 0 := rfl; have e1 : (1 : Int32).toInt = 1 := rfl; have e2 : (2 : Int32).toInt = 2 := rfl; have e3 : (3 : Int32).toInt = 3 := rfl; have e4 : (4 : Int32).toInt = 4 := rfl; have e5 : (5 : Int32).toInt = 5 := rfl; have e6 : (6 : Int32).toInt = 6 := rfl; have e7 : (7 : Int32).toInt = 7 := rfl; omega)) ?_
                  refine to_c (pc := 92) rw_246_92 (x := (-1 : Int32)) rfl rfl ?_
                  refine to_r0 (pc := 93) rw_246_93 ?_
                  refine to_ict (pc := 1340) rw_0_1340 (by decide +kernel) ?_
                  exact op_tail (op_c fC_fr_M)
