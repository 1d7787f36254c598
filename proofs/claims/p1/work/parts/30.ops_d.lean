/-! what each operation does on the fresh state -/
set_option maxHeartbeats 0 in
set_option maxRecDepth 4000 in
theorem op_19 {fr_M fr_1 fr_2 fr_3 fr_4 fr_5 fr_6 fr_7 fr_8 fr_9 fr_10 fr_11 fr_12 : mm_M} (HM : fr_Eq fr_M fr_1 fr_2 fr_3 fr_4 fr_5 fr_6 fr_7 fr_8 fr_9 fr_10 fr_11 fr_12) {xs : Nat → Int32} {x1 x2 x3 x4 x5 : Int32} (hx1 : xs 1 = x1) (hx2 : xs 2 = x2) (hx3 : xs 3 = x3) (hx4 : xs 4 = x4) (hx5 : xs 5 = x5) : mm_T (fr_X 6 xs) 40 0 881 [.ref mm_ext, .ref 0, .ref 77, .ref 125, .int 0, .null, .null] [] fr_M op_Q := by
  have z0 : (0 : Int32).toInt = 0 := rfl
  have fC_fr_M := fC_fr_M HM
  have fI_fr_M_100_0 := fI_fr_M_100_0 HM
  have fI_fr_M_100_1 := fI_fr_M_100_1 HM
  have fI_fr_M_100_2 := fI_fr_M_100_2 HM
  have fI_fr_M_100_3 := fI_fr_M_100_3 HM
  have fI_fr_M_100_4 := fI_fr_M_100_4 HM
  have fI_fr_M_100_5 := fI_fr_M_100_5 HM
  have fI_fr_M_25_0 := fI_fr_M_25_0 HM
  have fI_fr_M_25_1 := fI_fr_M_25_1 HM
  have fI_fr_M_25_2 := fI_fr_M_25_2 HM
  have fI_fr_M_25_3 := fI_fr_M_25_3 HM
  have fI_fr_M_25_4 := fI_fr_M_25_4 HM
  have fI_fr_M_25_5 := fI_fr_M_25_5 HM
  have fN_fr_M_100_0 := fN_fr_M_100_0 HM
  have fN_fr_M_25_0 := fN_fr_M_25_0 HM
  have fO_fr_M_0_10 := fO_fr_M_0_10 HM
  have fO_fr_M_100_100 := fO_fr_M_100_100 HM
  have fO_fr_M_17_4 := fO_fr_M_17_4 HM
  have fO_fr_M_25_100 := fO_fr_M_25_100 HM
  have fO_fr_M_77_11 := fO_fr_M_77_11 HM
  have fR_fr_M_0_3 := fR_fr_M_0_3 HM
  have fR_fr_M_17_1 := fR_fr_M_17_1 HM
  have fR_fr_M_77_40 := fR_fr_M_77_40 HM
  refine to_an (pc := 881) rw_0_881 rfl ?_
  refine to_an (pc := 882) rw_0_882 rfl ?_
  refine to_i (pc := 883) rw_0_883 rfl ?_
  refine to_c (pc := 885) rw_0_885 (x := (1 : Int32)) rfl rfl ?_
  refine to_2 (pc := 886) rw_0_886 (v := (1 : Int32)) (by decide +kernel) ?_
  refine op_x (pc := 887) rw_0_887 (k := 1) (by decide +kernel) hx1 ?_
  refine to_an (pc := 888) rw_0_888 rfl ?_
  refine to_i (pc := 889) rw_0_889 rfl ?_
  refine to_c (pc := 891) rw_0_891 (x := (2 : Int32)) rfl rfl ?_
  refine to_2 (pc := 892) rw_0_892 (v := (2 : Int32)) (by decide +kernel) ?_
  refine op_x (pc := 893) rw_0_893 (k := 2) (by decide +kernel) hx2 ?_
  refine to_v (pc := 894) rw_0_894 (hi := rfl) (ls0 := [.ref 0, .int _, .int _]) rfl (Nat.le_of_ble_eq_true rfl) (Nat.le_of_ble_eq_true rfl) rfl (to_rc rfl rfl rfl fO_fr_M_0_10) rfl ?_
  refine to_in (pc := 0) rw_128_0 rfl ?_
  refine to_s (pc := 1) rw_128_1 (ls0 := [.int _]) rfl (Nat.le_of_ble_eq_true rfl) (Nat.le_of_ble_eq_true rfl) rfl (to_rcs rfl rfl) rfl ?_
  refine to_in (pc := 0) rw_143_0 rfl ?_
  rcases Int.lt_or_le x1.toInt (0) with h1 | h1
  · refine to_ift (pc := 1) rw_143_1 (cd_of (c := .lt) (show x1.toInt < (0 : Int32).toInt from (by have e1 : (0 : Int32).toInt = 0 := rfl; omega))) ?_
    refine to_c (pc := 14) rw_143_14 (x := (0 : Int32)) rfl rfl ?_
    refine to_r1 (pc := 15) rw_143_15 (by decide +kernel) ?_
    refine to_ift (pc := 4) rw_128_4 (by decide +kernel) ?_
    refine to_c (pc := 24) rw_128_24 (x := (-1 : Int32)) rfl rfl ?_
    refine to_r0 (pc := 25) rw_128_25 ?_
    refine to_an (pc := 897) rw_0_897 rfl ?_
    refine to_an (pc := 898) rw_0_898 rfl ?_
    refine to_i (pc := 899) rw_0_899 rfl ?_
    refine to_c (pc := 901) rw_0_901 (x := (1 : Int32)) rfl rfl ?_
    refine to_2 (pc := 902) rw_0_902 (v := (1 : Int32)) (by decide +kernel) ?_
    refine op_x (pc := 903) rw_0_903 (k := 1) (by decide +kernel) hx1 ?_
    refine to_an (pc := 904) rw_0_904 rfl ?_
    refine to_i (pc := 905) rw_0_905 rfl ?_
    refine to_c (pc := 907) rw_0_907 (x := (2 : Int32)) rfl rfl ?_
    refine to_2 (pc := 908) rw_0_908 (v := (2 : Int32)) (by decide +kernel) ?_
    refine op_x (pc := 909) rw_0_909 (k := 2) (by decide +kernel) hx2 ?_
    refine to_v (pc := 910) rw_0_910 (hi := rfl) (ls0 := [.ref 77, .int _, .int _]) rfl (Nat.le_of_ble_eq_true rfl) (Nat.le_of_ble_eq_true rfl) rfl (to_rc rfl rfl rfl fO_fr_M_77_11) rfl ?_
    refine to_an (pc := 0) rw_206_0 rfl ?_
    refine to_c (pc := 1) rw_206_1 (x := (0 : Int32)) rfl rfl ?_
    refine tt_pI (pc := 2) rw_206_2 fO_fr_M_77_11 ?_
    refine to_in (pc := 5) rw_206_5 rfl ?_
    refine to_s (pc := 6) rw_206_6 (ls0 := [.int _]) rfl (Nat.le_of_ble_eq_true rfl) (Nat.le_of_ble_eq_true rfl) rfl (to_rcs rfl rfl) rfl ?_
    refine to_in (pc := 0) rw_205_0 rfl ?_
    refine to_ift (pc := 1) rw_205_1 (cd_of (c := .lt) (show x1.toInt < (0 : Int32).toInt from (by have e1 : (0 : Int32).toInt = 0 := rfl; omega))) ?_
    refine to_c (pc := 14) rw_205_14 (x := (0 : Int32)) rfl rfl ?_
    refine to_r1 (pc := 15) rw_205_15 (by decide +kernel) ?_
    refine to_ift (pc := 9) rw_206_9 (by decide +kernel) ?_
    refine to_c (pc := 40) rw_206_40 (x := (-1 : Int32)) rfl rfl ?_
    refine to_r0 (pc := 41) rw_206_41 ?_
    refine to_ict (pc := 913) rw_0_913 (by decide +kernel) ?_
    exact op_tail (op_c fC_fr_M)
  · refine to_iff (pc := 1) rw_143_1 (cd_no (c := .lt) (show ¬ x1.toInt < (0 : Int32).toInt from (by have e1 : (0 : Int32).toInt = 0 := rfl; omega))) ?_
    refine to_in (pc := 4) rw_143_4 rfl ?_
    refine to_c (pc := 5) rw_143_5 (x := (6 : Int32)) rfl rfl ?_
    rcases Int.lt_or_le x1.toInt (6) with h2 | h2
    · refine to_icf (pc := 7) rw_143_7 (cd_no (c := .ge) (show ¬ x1.toInt ≥ (6 : Int32).toInt from (by have e1 : (6 : Int32).toInt = 6 := rfl; omega))) ?_
      refine to_c (pc := 10) rw_143_10 (x := (1 : Int32)) rfl rfl ?_
      refine to_go (pc := 11) rw_143_11 ?_
      refine to_r1 (pc := 15) rw_143_15 (by decide +kernel) ?_
      refine to_iff (pc := 4) rw_128_4 (by decide +kernel) ?_
      refine to_in (pc := 7) rw_128_7 rfl ?_
      rcases Int.lt_or_le x2.toInt (0) with h3 | h3
      · refine to_ift (pc := 8) rw_128_8 (cd_of (c := .lt) (show x2.toInt < (0 : Int32).toInt from (by have e1 : (0 : Int32).toInt = 0 := rfl; omega))) ?_
        refine to_c (pc := 24) rw_128_24 (x := (-1 : Int32)) rfl rfl ?_
        refine to_r0 (pc := 25) rw_128_25 ?_
        refine to_an (pc := 897) rw_0_897 rfl ?_
        refine to_an (pc := 898) rw_0_898 rfl ?_
        refine to_i (pc := 899) rw_0_899 rfl ?_
        refine to_c (pc := 901) rw_0_901 (x := (1 : Int32)) rfl rfl ?_
        refine to_2 (pc := 902) rw_0_902 (v := (1 : Int32)) (by decide +kernel) ?_
        refine op_x (pc := 903) rw_0_903 (k := 1) (by decide +kernel) hx1 ?_
        refine to_an (pc := 904) rw_0_904 rfl ?_
        refine to_i (pc := 905) rw_0_905 rfl ?_
        refine to_c (pc := 907) rw_0_907 (x := (2 : Int32)) rfl rfl ?_
        refine to_2 (pc := 908) rw_0_908 (v := (2 : Int32)) (by decide +kernel) ?_
        refine op_x (pc := 909) rw_0_909 (k := 2) (by decide +kernel) hx2 ?_
        refine to_v (pc := 910) rw_0_910 (hi := rfl) (ls0 := [.ref 77, .int _, .int _]) rfl (Nat.le_of_ble_eq_true rfl) (Nat.le_of_ble_eq_true rfl) rfl (to_rc rfl rfl rfl fO_fr_M_77_11) rfl ?_
        refine to_an (pc := 0) rw_206_0 rfl ?_
        refine to_c (pc := 1) rw_206_1 (x := (0 : Int32)) rfl rfl ?_
        refine tt_pI (pc := 2) rw_206_2 fO_fr_M_77_11 ?_
        refine to_in (pc := 5) rw_206_5 rfl ?_
        refine to_s (pc := 6) rw_206_6 (ls0 := [.int _]) rfl (Nat.le_of_ble_eq_true rfl) (Nat.le_of_ble_eq_true rfl) rfl (to_rcs rfl rfl) rfl ?_
        refine to_in (pc := 0) rw_205_0 rfl ?_
        refine to_iff (pc := 1) rw_205_1 (cd_no (c := .lt) (show ¬ x1.toInt < (0 : Int32).toInt from (by have e1 : (0 : Int32).toInt = 0 := rfl; omega))) ?_
        refine to_in (pc := 4) rw_205_4 rfl ?_
        refine to_c (pc := 5) rw_205_5 (x := (6 : Int32)) rfl rfl ?_
        refine to_icf (pc := 7) rw_205_7 (cd_no (c := .ge) (show ¬ x1.toInt ≥ (6 : Int32).toInt from (by have e1 : (6 : Int32).toInt = 6 := rfl; omega))) ?_
        refine to_c (pc := 10) rw_205_10 (x := (1 : Int32)) rfl rfl ?_
        refine to_go (pc := 11) rw_205_11 ?_
        refine to_r1 (pc := 15) rw_205_15 (by decide +kernel) ?_
        refine to_iff (pc := 9) rw_206_9 (by decide +kernel) ?_
        refine to_in (pc := 12) rw_206_12 rfl ?_
        refine to_ift (pc := 13) rw_206_13 (cd_of (c := .lt) (show x2.toInt < (0 : Int32).toInt from (by have e1 : (0 : Int32).toInt = 0 := rfl; omega))) ?_
        refine to_c (pc := 40) rw_206_40 (x := (-1 : Int32)) rfl rfl ?_
        refine to_r0 (pc := 41) rw_206_41 ?_
        refine to_ict (pc := 913) rw_0_913 (by decide +kernel) ?_
        exact op_tail (op_c fC_fr_M)
      · refine to_iff (pc := 8) rw_128_8 (cd_no (c := .lt) (show ¬ x2.toInt < (0 : Int32).toInt from (by have e1 : (0 : Int32).toInt = 0 := rfl; omega))) ?_
        refine to_in (pc := 11) rw_128_11 rfl ?_
        refine to_an (pc := 12) rw_128_12 rfl ?_
        refine tt_gR (pc := 13) rw_128_13 fO_fr_M_0_10 fR_fr_M_0_3 ?_
        refine tt_gR (pc := 16) rw_128_16 fO_fr_M_17_4 fR_fr_M_17_1 ?_
        refine to_in (pc := 19) rw_128_19 rfl ?_
        by_cases h4 : x1 = (0 : Int32)
        · subst h4
          refine tt_ial (pc := 20) rw_128_20 rfl fO_fr_M_25_100 (op_j fN_fr_M_25_0 (by decide +kernel)) fI_fr_M_25_0 ?_
          refine to_icf (pc := 21) rw_128_21 (cd_no (c := .lt) (show ¬ x2.toInt < (0 : Int32).toInt from (by have e1 : (0 : Int32).toInt = 0 := rfl; omega))) ?_
          refine to_c (pc := 24) rw_128_24 (x := (-1 : Int32)) rfl rfl ?_
          refine to_r0 (pc := 25) rw_128_25 ?_
          refine to_an (pc := 897) rw_0_897 rfl ?_
          refine to_an (pc := 898) rw_0_898 rfl ?_
          refine to_i (pc := 899) rw_0_899 rfl ?_
          refine to_c (pc := 901) rw_0_901 (x := (1 : Int32)) rfl rfl ?_
          refine to_2 (pc := 902) rw_0_902 (v := (1 : Int32)) (by decide +kernel) ?_
          refine op_x (pc := 903) rw_0_903 (k := 1) (by decide +kernel) hx1 ?_
          refine to_an (pc := 904) rw_0_904 rfl ?_
          refine to_i (pc := 905) rw_0_905 rfl ?_
          refine to_c (pc := 907) rw_0_907 (x := (2 : Int32)) rfl rfl ?_
          refine to_2 (pc := 908) rw_0_908 (v := (2 : Int32)) (by decide +kernel) ?_
          refine op_x (pc := 909) rw_0_909 (k := 2) (by decide +kernel) hx2 ?_
          refine to_v (pc := 910) rw_0_910 (hi := rfl) (ls0 := [.ref 77, .int (0 : Int32), .int _]) rfl (Nat.le_of_ble_eq_true rfl) (Nat.le_of_ble_eq_true rfl) rfl (to_rc rfl rfl rfl fO_fr_M_77_11) rfl ?_
          refine to_an (pc := 0) rw_206_0 rfl ?_
          refine to_c (pc := 1) rw_206_1 (x := (0 : Int32)) rfl rfl ?_
          refine tt_pI (pc := 2) rw_206_2 fO_fr_M_77_11 ?_
          refine to_in (pc := 5) rw_206_5 rfl ?_
          refine to_s (pc := 6) rw_206_6 (ls0 := [.int (0 : Int32)]) rfl (Nat.le_of_ble_eq_true rfl) (Nat.le_of_ble_eq_true rfl) rfl (to_rcs rfl rfl) rfl ?_
          refine to_in (pc := 0) rw_205_0 rfl ?_
          refine to_iff (pc := 1) rw_205_1 (by decide +kernel) ?_
          refine to_in (pc := 4) rw_205_4 rfl ?_
          refine to_c (pc := 5) rw_205_5 (x := (6 : Int32)) rfl rfl ?_
          refine to_icf (pc := 7) rw_205_7 (by decide +kernel) ?_
          refine to_c (pc := 10) rw_205_10 (x := (1 : Int32)) rfl rfl ?_
          refine to_go (pc := 11) rw_205_11 ?_
          refine to_r1 (pc := 15) rw_205_15 (by decide +kernel) ?_
          refine to_iff (pc := 9) rw_206_9 (by decide +kernel) ?_
          refine to_in (pc := 12) rw_206_12 rfl ?_
          refine to_iff (pc := 13) rw_206_13 (cd_no (c := .lt) (show ¬ x2.toInt < (0 : Int32).toInt from (by have e1 : (0 : Int32).toInt = 0 := rfl; omega))) ?_
          refine to_in (pc := 16) rw_206_16 rfl ?_
          refine to_an (pc := 17) rw_206_17 rfl ?_
          refine tt_gR (pc := 18) rw_206_18 fO_fr_M_77_11 fR_fr_M_77_40 ?_
          refine to_in (pc := 21) rw_206_21 rfl ?_
          refine tt_ial (pc := 22) rw_206_22 rfl fO_fr_M_100_100 (op_j fN_fr_M_100_0 (by decide +kernel)) (rI_n rfl fI_fr_M_100_0) ?_
          refine to_ict (pc := 23) rw_206_23 (cd_of (c := .ge) (show x2.toInt ≥ (0 : Int32).toInt from (by have e1 : (0 : Int32).toInt = 0 := rfl; omega))) ?_
          refine to_c (pc := 40) rw_206_40 (x := (-1 : Int32)) rfl rfl ?_
          refine to_r0 (pc := 41) rw_206_41 ?_
          refine to_ict (pc := 913) rw_0_913 (by decide +kernel) ?_
          exact op_tail (op_c fC_fr_M)
        · have h4 := cd_ne h4
          by_cases h5 : x1 = (1 : Int32)
          · subst h5
            refine tt_ial (pc := 20) rw_128_20 rfl fO_fr_M_25_100 (op_j fN_fr_M_25_0 (by decide +kernel)) fI_fr_M_25_1 ?_
            refine to_icf (pc := 21) rw_128_21 (cd_no (c := .lt) (show ¬ x2.toInt < (0 : Int32).toInt from (by have e1 : (0 : Int32).toInt = 0 := rfl; omega))) ?_
            refine to_c (pc := 24) rw_128_24 (x := (-1 : Int32)) rfl rfl ?_
            refine to_r0 (pc := 25) rw_128_25 ?_
            refine to_an (pc := 897) rw_0_897 rfl ?_
            refine to_an (pc := 898) rw_0_898 rfl ?_
            refine to_i (pc := 899) rw_0_899 rfl ?_
            refine to_c (pc := 901) rw_0_901 (x := (1 : Int32)) rfl rfl ?_
            refine to_2 (pc := 902) rw_0_902 (v := (1 : Int32)) (by decide +kernel) ?_
            refine op_x (pc := 903) rw_0_903 (k := 1) (by decide +kernel) hx1 ?_
            refine to_an (pc := 904) rw_0_904 rfl ?_
            refine to_i (pc := 905) rw_0_905 rfl ?_
            refine to_c (pc := 907) rw_0_907 (x := (2 : Int32)) rfl rfl ?_
            refine to_2 (pc := 908) rw_0_908 (v := (2 : Int32)) (by decide +kernel) ?_
            refine op_x (pc := 909) rw_0_909 (k := 2) (by decide +kernel) hx2 ?_
            refine to_v (pc := 910) rw_0_910 (hi := rfl) (ls0 := [.ref 77, .int (1 : Int32), .int _]) rfl (Nat.le_of_ble_eq_true rfl) (Nat.le_of_ble_eq_true rfl) rfl (to_rc rfl rfl rfl fO_fr_M_77_11) rfl ?_
            refine to_an (pc := 0) rw_206_0 rfl ?_
            refine to_c (pc := 1) rw_206_1 (x := (0 : Int32)) rfl rfl ?_
            refine tt_pI (pc := 2) rw_206_2 fO_fr_M_77_11 ?_
            refine to_in (pc := 5) rw_206_5 rfl ?_
            refine to_s (pc := 6) rw_206_6 (ls0 := [.int (1 : Int32)]) rfl (Nat.le_of_ble_eq_true rfl) (Nat.le_of_ble_eq_true rfl) rfl (to_rcs rfl rfl) rfl ?_
            refine to_in (pc := 0) rw_205_0 rfl ?_
            refine to_iff (pc := 1) rw_205_1 (by decide +kernel) ?_
            refine to_in (pc := 4) rw_205_4 rfl ?_
            refine to_c (pc := 5) rw_205_5 (x := (6 : Int32)) rfl rfl ?_
            refine to_icf (pc := 7) rw_205_7 (by decide +kernel) ?_
            refine to_c (pc := 10) rw_205_10 (x := (1 : Int32)) rfl rfl ?_
            refine to_go (pc := 11) rw_205_11 ?_
            refine to_r1 (pc := 15) rw_205_15 (by decide +kernel) ?_
            refine to_iff (pc := 9) rw_206_9 (by decide +kernel) ?_
            refine to_in (pc := 12) rw_206_12 rfl ?_
            refine to_iff (pc := 13) rw_206_13 (cd_no (c := .lt) (show ¬ x2.toInt < (0 : Int32).toInt from (by have e1 : (0 : Int32).toInt = 0 := rfl; omega))) ?_
            refine to_in (pc := 16) rw_206_16 rfl ?_
            refine to_an (pc := 17) rw_206_17 rfl ?_
            refine tt_gR (pc := 18) rw_206_18 fO_fr_M_77_11 fR_fr_M_77_40 ?_
            refine to_in (pc := 21) rw_206_21 rfl ?_
            refine tt_ial (pc := 22) rw_206_22 rfl fO_fr_M_100_100 (op_j fN_fr_M_100_0 (by decide +kernel)) (rI_n rfl fI_fr_M_100_1) ?_
            refine to_ict (pc := 23) rw_206_23 (cd_of (c := .ge) (show x2.toInt ≥ (0 : Int32).toInt from (by have e1 : (0 : Int32).toInt = 0 := rfl; omega))) ?_
            refine to_c (pc := 40) rw_206_40 (x := (-1 : Int32)) rfl rfl ?_
            refine to_r0 (pc := 41) rw_206_41 ?_
            refine to_ict (pc := 913) rw_0_913 (by decide +kernel) ?_
            exact op_tail (op_c fC_fr_M)
          · have h5 := cd_ne h5
            by_cases h6 : x1 = (2 : Int32)
            · subst h6
              refine tt_ial (pc := 20) rw_128_20 rfl fO_fr_M_25_100 (op_j fN_fr_M_25_0 (by decide +kernel)) fI_fr_M_25_2 ?_
              refine to_icf (pc := 21) rw_128_21 (cd_no (c := .lt) (show ¬ x2.toInt < (0 : Int32).toInt from (by have e1 : (0 : Int32).toInt = 0 := rfl; omega))) ?_
              refine to_c (pc := 24) rw_128_24 (x := (-1 : Int32)) rfl rfl ?_
              refine to_r0 (pc := 25) rw_128_25 ?_
              refine to_an (pc := 897) rw_0_897 rfl ?_
              refine to_an (pc := 898) rw_0_898 rfl ?_
              refine to_i (pc := 899) rw_0_899 rfl ?_
              refine to_c (pc := 901) rw_0_901 (x := (1 : Int32)) rfl rfl ?_
              refine to_2 (pc := 902) rw_0_902 (v := (1 : Int32)) (by decide +kernel) ?_
              refine op_x (pc := 903) rw_0_903 (k := 1) (by decide +kernel) hx1 ?_
              refine to_an (pc := 904) rw_0_904 rfl ?_
              refine to_i (pc := 905) rw_0_905 rfl ?_
              refine to_c (pc := 907) rw_0_907 (x := (2 : Int32)) rfl rfl ?_
              refine to_2 (pc := 908) rw_0_908 (v := (2 : Int32)) (by decide +kernel) ?_
              refine op_x (pc := 909) rw_0_909 (k := 2) (by decide +kernel) hx2 ?_
              refine to_v (pc := 910) rw_0_910 (hi := rfl) (ls0 := [.ref 77, .int (2 : Int32), .int _]) rfl (Nat.le_of_ble_eq_true rfl) (Nat.le_of_ble_eq_true rfl) rfl (to_rc rfl rfl rfl fO_fr_M_77_11) rfl ?_
              refine to_an (pc := 0) rw_206_0 rfl ?_
              refine to_c (pc := 1) rw_206_1 (x := (0 : Int32)) rfl rfl ?_
              refine tt_pI (pc := 2) rw_206_2 fO_fr_M_77_11 ?_
              refine to_in (pc := 5) rw_206_5 rfl ?_
              refine to_s (pc := 6) rw_206_6 (ls0 := [.int (2 : Int32)]) rfl (Nat.le_of_ble_eq_true rfl) (Nat.le_of_ble_eq_true rfl) rfl (to_rcs rfl rfl) rfl ?_
              refine to_in (pc := 0) rw_205_0 rfl ?_
              refine to_iff (pc := 1) rw_205_1 (by decide +kernel) ?_
              refine to_in (pc := 4) rw_205_4 rfl ?_
              refine to_c (pc := 5) rw_205_5 (x := (6 : Int32)) rfl rfl ?_
              refine to_icf (pc := 7) rw_205_7 (by decide +kernel) ?_
              refine to_c (pc := 10) rw_205_10 (x := (1 : Int32)) rfl rfl ?_
              refine to_go (pc := 11) rw_205_11 ?_
              refine to_r1 (pc := 15) rw_205_15 (by decide +kernel) ?_
              refine to_iff (pc := 9) rw_206_9 (by decide +kernel) ?_
              refine to_in (pc := 12) rw_206_12 rfl ?_
              refine to_iff (pc := 13) rw_206_13 (cd_no (c := .lt) (show ¬ x2.toInt < (0 : Int32).toInt from (by have e1 : (0 : Int32).toInt = 0 := rfl; omega))) ?_
              refine to_in (pc := 16) rw_206_16 rfl ?_
              refine to_an (pc := 17) rw_206_17 rfl ?_
              refine tt_gR (pc := 18) rw_206_18 fO_fr_M_77_11 fR_fr_M_77_40 ?_
              refine to_in (pc := 21) rw_206_21 rfl ?_
              refine tt_ial (pc := 22) rw_206_22 rfl fO_fr_M_100_100 (op_j fN_fr_M_100_0 (by decide +kernel)) (rI_n rfl fI_fr_M_100_2) ?_
              refine to_ict (pc := 23) rw_206_23 (cd_of (c := .ge) (show x2.toInt ≥ (0 : Int32).toInt from (by have e1 : (0 : Int32).toInt = 0 := rfl; omega))) ?_
              refine to_c (pc := 40) rw_206_40 (x := (-1 : Int32)) rfl rfl ?_
              refine to_r0 (pc := 41) rw_206_41 ?_
              refine to_ict (pc := 913) rw_0_913 (by decide +kernel) ?_
              exact op_tail (op_c fC_fr_M)
            · have h6 := cd_ne h6
              by_cases h7 : x1 = (3 : Int32)
              · subst h7
                refine tt_ial (pc := 20) rw_128_20 rfl fO_fr_M_25_100 (op_j fN_fr_M_25_0 (by decide +kernel)) fI_fr_M_25_3 ?_
                refine to_icf (pc := 21) rw_128_21 (cd_no (c := .lt) (show ¬ x2.toInt < (0 : Int32).toInt from (by have e1 : (0 : Int32).toInt = 0 := rfl; omega))) ?_
                refine to_c (pc := 24) rw_128_24 (x := (-1 : Int32)) rfl rfl ?_
                refine to_r0 (pc := 25) rw_128_25 ?_
                refine to_an (pc := 897) rw_0_897 rfl ?_
                refine to_an (pc := 898) rw_0_898 rfl ?_
                refine to_i (pc := 899) rw_0_899 rfl ?_
                refine to_c (pc := 901) rw_0_901 (x := (1 : Int32)) rfl rfl ?_
                refine to_2 (pc := 902) rw_0_902 (v := (1 : Int32)) (by decide +kernel) ?_
                refine op_x (pc := 903) rw_0_903 (k := 1) (by decide +kernel) hx1 ?_
                refine to_an (pc := 904) rw_0_904 rfl ?_
                refine to_i (pc := 905) rw_0_905 rfl ?_
                refine to_c (pc := 907) rw_0_907 (x := (2 : Int32)) rfl rfl ?_
                refine to_2 (pc := 908) rw_0_908 (v := (2 : Int32)) (by decide +kernel) ?_
                refine op_x (pc := 909) rw_0_909 (k := 2) (by decide +kernel) hx2 ?_
                refine to_v (pc := 910) rw_0_910 (hi := rfl) (ls0 := [.ref 77, .int (3 : Int32), .int _]) rfl (Nat.le_of_ble_eq_true rfl) (Nat.le_of_ble_eq_true rfl) rfl (to_rc rfl rfl rfl fO_fr_M_77_11) rfl ?_
                refine to_an (pc := 0) rw_206_0 rfl ?_
                refine to_c (pc := 1) rw_206_1 (x := (0 : Int32)) rfl rfl ?_
                refine tt_pI (pc := 2) rw_206_2 fO_fr_M_77_11 ?_
                refine to_in (pc := 5) rw_206_5 rfl ?_
                refine to_s (pc := 6) rw_206_6 (ls0 := [.int (3 : Int32)]) rfl (Nat.le_of_ble_eq_true rfl) (Nat.le_of_ble_eq_true rfl) rfl (to_rcs rfl rfl) rfl ?_
                refine to_in (pc := 0) rw_205_0 rfl ?_
                refine to_iff (pc := 1) rw_205_1 (by decide +kernel) ?_
                refine to_in (pc := 4) rw_205_4 rfl ?_
                refine to_c (pc := 5) rw_205_5 (x := (6 : Int32)) rfl rfl ?_
                refine to_icf (pc := 7) rw_205_7 (by decide +kernel) ?_
                refine to_c (pc := 10) rw_205_10 (x := (1 : Int32)) rfl rfl ?_
                refine to_go (pc := 11) rw_205_11 ?_
                refine to_r1 (pc := 15) rw_205_15 (by decide +kernel) ?_
                refine to_iff (pc := 9) rw_206_9 (by decide +kernel) ?_
                refine to_in (pc := 12) rw_206_12 rfl ?_
                refine to_iff (pc := 13) rw_206_13 (cd_no (c := .lt) (show ¬ x2.toInt < (0 : Int32).toInt from (by have e1 : (0 : Int32).toInt = 0 := rfl; omega))) ?_
                refine to_in (pc := 16) rw_206_16 rfl ?_
                refine to_an (pc := 17) rw_206_17 rfl ?_
                refine tt_gR (pc := 18) rw_206_18 fO_fr_M_77_11 fR_fr_M_77_40 ?_
                refine to_in (pc := 21) rw_206_21 rfl ?_
                refine tt_ial (pc := 22) rw_206_22 rfl fO_fr_M_100_100 (op_j fN_fr_M_100_0 (by decide +kernel)) (rI_n rfl fI_fr_M_100_3) ?_
                refine to_ict (pc := 23) rw_206_23 (cd_of (c := .ge) (show x2.toInt ≥ (0 : Int32).toInt from (by have e1 : (0 : Int32).toInt = 0 := rfl; omega))) ?_
                refine to_c (pc := 40) rw_206_40 (x := (-1 : Int32)) rfl rfl ?_
                refine to_r0 (pc := 41) rw_206_41 ?_
                refine to_ict (pc := 913) rw_0_913 (by decide +kernel) ?_
                exact op_tail (op_c fC_fr_M)
              · have h7 := cd_ne h7
                by_cases h8 : x1 = (4 : Int32)
                · subst h8
                  refine tt_ial (pc := 20) rw_128_20 rfl fO_fr_M_25_100 (op_j fN_fr_M_25_0 (by decide +kernel)) fI_fr_M_25_4 ?_
                  refine to_icf (pc := 21) rw_128_21 (cd_no (c := .lt) (show ¬ x2.toInt < (0 : Int32).toInt from (by have e1 : (0 : Int32).toInt = 0 := rfl; omega))) ?_
                  refine to_c (pc := 24) rw_128_24 (x := (-1 : Int32)) rfl rfl ?_
                  refine to_r0 (pc := 25) rw_128_25 ?_
                  refine to_an (pc := 897) rw_0_897 rfl ?_
                  refine to_an (pc := 898) rw_0_898 rfl ?_
                  refine to_i (pc := 899) rw_0_899 rfl ?_
                  refine to_c (pc := 901) rw_0_901 (x := (1 : Int32)) rfl rfl ?_
                  refine to_2 (pc := 902) rw_0_902 (v := (1 : Int32)) (by decide +kernel) ?_
                  refine op_x (pc := 903) rw_0_903 (k := 1) (by decide +kernel) hx1 ?_
                  refine to_an (pc := 904) rw_0_904 rfl ?_
                  refine to_i (pc := 905) rw_0_905 rfl ?_
                  refine to_c (pc := 907) rw_0_907 (x := (2 : Int32)) rfl rfl ?_
                  refine to_2 (pc := 908) rw_0_908 (v := (2 : Int32)) (by decide +kernel) ?_
                  refine op_x (pc := 909) rw_0_909 (k := 2) (by decide +kernel) hx2 ?_
                  refine to_v (pc := 910) rw_0_910 (hi := rfl) (ls0 := [.ref 77, .int (4 : Int32), .int _]) rfl (Nat.le_of_ble_eq_true rfl) (Nat.le_of_ble_eq_true rfl) rfl (to_rc rfl rfl rfl fO_fr_M_77_11) rfl ?_
                  refine to_an (pc := 0) rw_206_0 rfl ?_
                  refine to_c (pc := 1) rw_206_1 (x := (0 : Int32)) rfl rfl ?_
                  refine tt_pI (pc := 2) rw_206_2 fO_fr_M_77_11 ?_
                  refine to_in (pc := 5) rw_206_5 rfl ?_
                  refine to_s (pc := 6) rw_206_6 (ls0 := [.int (4 : Int32)]) rfl (Nat.le_of_ble_eq_true rfl) (Nat.le_of_ble_eq_true rfl) rfl (to_rcs rfl rfl) rfl ?_
                  refine to_in (pc := 0) rw_205_0 rfl ?_
                  refine to_iff (pc := 1) rw_205_1 (by decide +kernel) ?_
                  refine to_in (pc := 4) rw_205_4 rfl ?_
                  refine to_c (pc := 5) rw_205_5 (x := (6 : Int32)) rfl rfl ?_
                  refine to_icf (pc := 7) rw_205_7 (by decide +kernel) ?_
                  refine to_c (pc := 10) rw_205_10 (x := (1 : Int32)) rfl rfl ?_
                  refine to_go (pc := 11) rw_205_11 ?_
                  refine to_r1 (pc := 15) rw_205_15 (by decide +kernel) ?_
                  refine to_iff (pc := 9) rw_206_9 (by decide +kernel) ?_
                  refine to_in (pc := 12) rw_206_12 rfl ?_
                  refine to_iff (pc := 13) rw_206_13 (cd_no (c := .lt) (show ¬ x2.toInt < (0 : Int32).toInt from (by have e1 : (0 : Int32).toInt = 0 := rfl; omega))) ?_
                  refine to_in (pc := 16) rw_206_16 rfl ?_
                  refine to_an (pc := 17) rw_206_17 rfl ?_
                  refine tt_gR (pc := 18) rw_206_18 fO_fr_M_77_11 fR_fr_M_77_40 ?_
                  refine to_in (pc := 21) rw_206_21 rfl ?_
                  refine tt_ial (pc := 22) rw_206_22 rfl fO_fr_M_100_100 (op_j fN_fr_M_100_0 (by decide +kernel)) (rI_n rfl fI_fr_M_100_4) ?_
                  refine to_ict (pc := 23) rw_206_23 (cd_of (c := .ge) (show x2.toInt ≥ (0 : Int32).toInt from (by have e1 : (0 : Int32).toInt = 0 := rfl; omega))) ?_
                  refine to_c (pc := 40) rw_206_40 (x := (-1 : Int32)) rfl rfl ?_
                  refine to_r0 (pc := 41) rw_206_41 ?_
                  refine to_ict (pc := 913) rw_0_913 (by decide +kernel) ?_
                  exact op_tail (op_c fC_fr_M)
                · have h8 := cd_ne h8
                  by_cases h9 : x1 = (5 : Int32)
                  · subst h9
                    refine tt_ial (pc := 20) rw_128_20 rfl fO_fr_M_25_100 (op_j fN_fr_M_25_0 (by decide +kernel)) fI_fr_M_25_5 ?_
                    refine to_icf (pc := 21) rw_128_21 (cd_no (c := .lt) (show ¬ x2.toInt < (0 : Int32).toInt from (by have e1 : (0 : Int32).toInt = 0 := rfl; omega))) ?_
                    refine to_c (pc := 24) rw_128_24 (x := (-1 : Int32)) rfl rfl ?_
                    refine to_r0 (pc := 25) rw_128_25 ?_
                    refine to_an (pc := 897) rw_0_897 rfl ?_
                    refine to_an (pc := 898) rw_0_898 rfl ?_
                    refine to_i (pc := 899) rw_0_899 rfl ?_
                    refine to_c (pc := 901) rw_0_901 (x := (1 : Int32)) rfl rfl ?_
                    refine to_2 (pc := 902) rw_0_902 (v := (1 : Int32)) (by decide +kernel) ?_
                    refine op_x (pc := 903) rw_0_903 (k := 1) (by decide +kernel) hx1 ?_
                    refine to_an (pc := 904) rw_0_904 rfl ?_
                    refine to_i (pc := 905) rw_0_905 rfl ?_
                    refine to_c (pc := 907) rw_0_907 (x := (2 : Int32)) rfl rfl ?_
                    refine to_2 (pc := 908) rw_0_908 (v := (2 : Int32)) (by decide +kernel) ?_
                    refine op_x (pc := 909) rw_0_909 (k := 2) (by decide +kernel) hx2 ?_
                    refine to_v (pc := 910) rw_0_910 (hi := rfl) (ls0 := [.ref 77, .int (5 : Int32), .int _]) rfl (Nat.le_of_ble_eq_true rfl) (Nat.le_of_ble_eq_true rfl) rfl (to_rc rfl rfl rfl fO_fr_M_77_11) rfl ?_
                    refine to_an (pc := 0) rw_206_0 rfl ?_
                    refine to_c (pc := 1) rw_206_1 (x := (0 : Int32)) rfl rfl ?_
                    refine tt_pI (pc := 2) rw_206_2 fO_fr_M_77_11 ?_
                    refine to_in (pc := 5) rw_206_5 rfl ?_
                    refine to_s (pc := 6) rw_206_6 (ls0 := [.int (5 : Int32)]) rfl (Nat.le_of_ble_eq_true rfl) (Nat.le_of_ble_eq_true rfl) rfl (to_rcs rfl rfl) rfl ?_
                    refine to_in (pc := 0) rw_205_0 rfl ?_
                    refine to_iff (pc := 1) rw_205_1 (by decide +kernel) ?_
                    refine to_in (pc := 4) rw_205_4 rfl ?_
                    refine to_c (pc := 5) rw_205_5 (x := (6 : Int32)) rfl rfl ?_
                    refine to_icf (pc := 7) rw_205_7 (by decide +kernel) ?_
                    refine to_c (pc := 10) rw_205_10 (x := (1 : Int32)) rfl rfl ?_
                    refine to_go (pc := 11) rw_205_11 ?_
                    refine to_r1 (pc := 15) rw_205_15 (by decide +kernel) ?_
                    refine to_iff (pc := 9) rw_206_9 (by decide +kernel) ?_
                    refine to_in (pc := 12) rw_206_12 rfl ?_
                    refine to_iff (pc := 13) rw_206_13 (cd_no (c := .lt) (show ¬ x2.toInt < (0 : Int32).toInt from (by have e1 : (0 : Int32).toInt = 0 := rfl; omega))) ?_
                    refine to_in (pc := 16) rw_206_16 rfl ?_
                    refine to_an (pc := 17) rw_206_17 rfl ?_
                    refine tt_gR (pc := 18) rw_206_18 fO_fr_M_77_11 fR_fr_M_77_40 ?_
                    refine to_in (pc := 21) rw_206_21 rfl ?_
                    refine tt_ial (pc := 22) rw_206_22 rfl fO_fr_M_100_100 (op_j fN_fr_M_100_0 (by decide +kernel)) (rI_n rfl fI_fr_M_100_5) ?_
                    refine to_ict (pc := 23) rw_206_23 (cd_of (c := .ge) (show x2.toInt ≥ (0 : Int32).toInt from (by have e1 : (0 : Int32).toInt = 0 := rfl; omega))) ?_
                    refine to_c (pc := 40) rw_206_40 (x := (-1 : Int32)) rfl rfl ?_
                    refine to_r0 (pc := 41) rw_206_41 ?_
                    refine to_ict (pc := 913) rw_0_913 (by decide +kernel) ?_
                    exact op_tail (op_c fC_fr_M)
                  · have h9 := cd_ne h9
                    exact absurd rfl (by have e0 : (0 : Int32).toInt = 0 := rfl; have e1 : (1 : Int32).toInt = 1 := rfl; have e2 : (2 : Int32).toInt = 2 := rfl; have e3 : (3 : Int32).toInt = 3 := rfl; have e4 : (4 : Int32).toInt = 4 := rfl; have e5 : (5 : Int32).toInt = 5 := rfl; omega : ¬ ((0 : Nat) = 0))
    · refine to_ict (pc := 7) rw_143_7 (cd_of (c := .ge) (show x1.toInt ≥ (6 : Int32).toInt from (by have e1 : (6 : Int32).toInt = 6 := rfl; omega))) ?_
      refine to_c (pc := 14) rw_143_14 (x := (0 : Int32)) rfl rfl ?_
      refine to_r1 (pc := 15) rw_143_15 (by decide +kernel) ?_
      refine to_ift (pc := 4) rw_128_4 (by decide +kernel) ?_
      refine to_c (pc := 24) rw_128_24 (x := (-1 : Int32)) rfl rfl ?_
      refine to_r0 (pc := 25) rw_128_25 ?_
      refine to_an (pc := 897) rw_0_897 rfl ?_
      refine to_an (pc := 898) rw_0_898 rfl ?_
      refine to_i (pc := 899) rw_0_899 rfl ?_
      refine to_c (pc := 901) rw_0_901 (x := (1 : Int32)) rfl rfl ?_
      refine to_2 (pc := 902) rw_0_902 (v := (1 : Int32)) (by decide +kernel) ?_
      refine op_x (pc := 903) rw_0_903 (k := 1) (by decide +kernel) hx1 ?_
      refine to_an (pc := 904) rw_0_904 rfl ?_
      refine to_i (pc := 905) rw_0_905 rfl ?_
      refine to_c (pc := 907) rw_0_907 (x := (2 : Int32)) rfl rfl ?_
      refine to_2 (pc := 908) rw_0_908 (v := (2 : Int32)) (by decide +kernel) ?_
      refine op_x (pc := 909) rw_0_909 (k := 2) (by decide +kernel) hx2 ?_
      refine to_v (pc := 910) rw_0_910 (hi := rfl) (ls0 := [.ref 77, .int _, .int _]) rfl (Nat.le_of_ble_eq_true rfl) (Nat.le_of_ble_eq_true rfl) rfl (to_rc rfl rfl rfl fO_fr_M_77_11) rfl ?_
      refine to_an (pc := 0) rw_206_0 rfl ?_
      refine to_c (pc := 1) rw_206_1 (x := (0 : Int32)) rfl rfl ?_
      refine tt_pI (pc := 2) rw_206_2 fO_fr_M_77_11 ?_
      refine to_in (pc := 5) rw_206_5 rfl ?_
      refine to_s (pc := 6) rw_206_6 (ls0 := [.int _]) rfl (Nat.le_of_ble_eq_true rfl) (Nat.le_of_ble_eq_true rfl) rfl (to_rcs rfl rfl) rfl ?_
      refine to_in (pc := 0) rw_205_0 rfl ?_
      refine to_iff (pc := 1) rw_205_1 (cd_no (c := .lt) (show ¬ x1.toInt < (0 : Int32).toInt from (by have e1 : (0 : Int32).toInt = 0 := rfl; omega))) ?_
      refine to_in (pc := 4) rw_205_4 rfl ?_
      refine to_c (pc := 5) rw_205_5 (x := (6 : Int32)) rfl rfl ?_
      refine to_ict (pc := 7) rw_205_7 (cd_of (c := .ge) (show x1.toInt ≥ (6 : Int32).toInt from (by have e1 : (6 : Int32).toInt = 6 := rfl; omega))) ?_
      refine to_c (pc := 14) rw_205_14 (x := (0 : Int32)) rfl rfl ?_
      refine to_r1 (pc := 15) rw_205_15 (by decide +kernel) ?_
      refine to_ift (pc := 9) rw_206_9 (by decide +kernel) ?_
      refine to_c (pc := 40) rw_206_40 (x := (-1 : Int32)) rfl rfl ?_
      refine to_r0 (pc := 41) rw_206_41 ?_
      refine to_ict (pc := 913) rw_0_913 (by decide +kernel) ?_
      exact op_tail (op_c fC_fr_M)
set_option maxHeartbeats 0 in
set_option maxRecDepth 4000 in
theorem op_20 {fr_M fr_1 fr_2 fr_3 fr_4 fr_5 fr_6 fr_7 fr_8 fr_9 fr_10 fr_11 fr_12 : mm_M} (HM : fr_Eq fr_M fr_1 fr_2 fr_3 fr_4 fr_5 fr_6 fr_7 fr_8 fr_9 fr_10 fr_11 fr_12) {xs : Nat → Int32} {x1 x2 x3 x4 x5 : Int32} (hx1 : xs 1 = x1) (hx2 : xs 2 = x2) (hx3 : xs 3 = x3) (hx4 : xs 4 = x4) (hx5 : xs 5 = x5) : mm_T (fr_X 6 xs) 40 0 918 [.ref mm_ext, .ref 0, .ref 77, .ref 125, .int 0, .null, .null] [] fr_M op_Q := by
  have z0 : (0 : Int32).toInt = 0 := rfl
  have fC_fr_10 := fC_fr_10 HM
  have fC_fr_M := fC_fr_M HM
  have fI_fr_10_100_0 := fI_fr_10_100_0 HM
  have fI_fr_10_100_1 := fI_fr_10_100_1 HM
  have fI_fr_10_100_2 := fI_fr_10_100_2 HM
  have fI_fr_10_100_3 := fI_fr_10_100_3 HM
  have fI_fr_10_100_4 := fI_fr_10_100_4 HM
  have fI_fr_10_100_5 := fI_fr_10_100_5 HM
  have fI_fr_10_25_0 := fI_fr_10_25_0 HM
  have fI_fr_10_25_1 := fI_fr_10_25_1 HM
  have fI_fr_10_25_2 := fI_fr_10_25_2 HM
  have fI_fr_10_25_3 := fI_fr_10_25_3 HM
  have fI_fr_10_25_4 := fI_fr_10_25_4 HM
  have fI_fr_10_25_5 := fI_fr_10_25_5 HM
  have fI_fr_10_49_0 := fI_fr_10_49_0 HM
  have fI_fr_10_77_13 := fI_fr_10_77_13 HM
  have fI_fr_10_77_28 := fI_fr_10_77_28 HM
  have fI_fr_10_77_29 := fI_fr_10_77_29 HM
  have fI_fr_9_49_0 := fI_fr_9_49_0 HM
  have fN_fr_10_100_0 := fN_fr_10_100_0 HM
  have fN_fr_10_25_0 := fN_fr_10_25_0 HM
  have fO_fr_10_0_10 := fO_fr_10_0_10 HM
  have fO_fr_10_100_100 := fO_fr_10_100_100 HM
  have fO_fr_10_17_4 := fO_fr_10_17_4 HM
  have fO_fr_10_25_100 := fO_fr_10_25_100 HM
  have fO_fr_10_49_5 := fO_fr_10_49_5 HM
  have fO_fr_10_77_11 := fO_fr_10_77_11 HM
  have fO_fr_9_0_10 := fO_fr_9_0_10 HM
  have fO_fr_9_17_4 := fO_fr_9_17_4 HM
  have fO_fr_9_49_5 := fO_fr_9_49_5 HM
  have fO_fr_M_0_10 := fO_fr_M_0_10 HM
  have fO_fr_M_77_11 := fO_fr_M_77_11 HM
  have fR_fr_10_0_3 := fR_fr_10_0_3 HM
  have fR_fr_10_0_8 := fR_fr_10_0_8 HM
  have fR_fr_10_17_1 := fR_fr_10_17_1 HM
  have fR_fr_10_77_40 := fR_fr_10_77_40 HM
  have fR_fr_9_0_2 := fR_fr_9_0_2 HM
  have fR_fr_9_0_3 := fR_fr_9_0_3 HM
  have fR_fr_9_0_8 := fR_fr_9_0_8 HM
  refine to_an (pc := 918) rw_0_918 rfl ?_
  refine to_an (pc := 919) rw_0_919 rfl ?_
  refine to_i (pc := 920) rw_0_920 rfl ?_
  refine to_c (pc := 922) rw_0_922 (x := (1 : Int32)) rfl rfl ?_
  refine to_2 (pc := 923) rw_0_923 (v := (1 : Int32)) (by decide +kernel) ?_
  refine op_x (pc := 924) rw_0_924 (k := 1) (by decide +kernel) hx1 ?_
  refine to_an (pc := 925) rw_0_925 rfl ?_
  refine to_i (pc := 926) rw_0_926 rfl ?_
  refine to_c (pc := 928) rw_0_928 (x := (2 : Int32)) rfl rfl ?_
  refine to_2 (pc := 929) rw_0_929 (v := (2 : Int32)) (by decide +kernel) ?_
  refine op_x (pc := 930) rw_0_930 (k := 2) (by decide +kernel) hx2 ?_
  refine to_i2l (pc := 931) rw_0_931 rfl ?_
  refine to_c (pc := 932) rw_0_932 (x := (32 : Int32)) rfl rfl ?_
  refine to_2s (pc := 934) rw_0_934 rfl ?_
  refine to_an (pc := 935) rw_0_935 rfl ?_
  refine to_i (pc := 936) rw_0_936 rfl ?_
  refine to_c (pc := 938) rw_0_938 (x := (3 : Int32)) rfl rfl ?_
  refine to_2 (pc := 939) rw_0_939 (v := (3 : Int32)) (by decide +kernel) ?_
  refine op_x (pc := 940) rw_0_940 (k := 3) (by decide +kernel) hx3 ?_
  refine to_i2l (pc := 941) rw_0_941 rfl ?_
  refine to_cl (pc := 942) rw_0_942 (x := (4294967295 : Int64)) rfl rfl ?_
  refine to_2l (pc := 945) rw_0_945 rfl ?_
  refine to_2l (pc := 946) rw_0_946 rfl ?_
  refine to_v (pc := 947) rw_0_947 (hi := rfl) (ls0 := [.ref 0, .int _, .long _, .null]) rfl (Nat.le_of_ble_eq_true rfl) (Nat.le_of_ble_eq_true rfl) rfl (to_rc rfl rfl rfl fO_fr_M_0_10) rfl ?_
  refine to_in (pc := 0) rw_129_0 rfl ?_
  refine to_s (pc := 1) rw_129_1 (ls0 := [.int _]) rfl (Nat.le_of_ble_eq_true rfl) (Nat.le_of_ble_eq_true rfl) rfl (to_rcs rfl rfl) rfl ?_
  refine to_in (pc := 0) rw_143_0 rfl ?_
  rcases Int.lt_or_le x1.toInt (0) with h1 | h1
  · refine to_ift (pc := 1) rw_143_1 (cd_of (c := .lt) (show x1.toInt < (0 : Int32).toInt from (by have e1 : (0 : Int32).toInt = 0 := rfl; omega))) ?_
    refine to_c (pc := 14) rw_143_14 (x := (0 : Int32)) rfl rfl ?_
    refine to_r1 (pc := 15) rw_143_15 (by decide +kernel) ?_
    refine to_iff (pc := 4) rw_129_4 (by decide +kernel) ?_
    refine to_c (pc := 7) rw_129_7 (x := (-1 : Int32)) rfl rfl ?_
    refine to_r0 (pc := 8) rw_129_8 ?_
    refine to_an (pc := 950) rw_0_950 rfl ?_
    refine to_an (pc := 951) rw_0_951 rfl ?_
    refine to_i (pc := 952) rw_0_952 rfl ?_
    refine to_c (pc := 954) rw_0_954 (x := (1 : Int32)) rfl rfl ?_
    refine to_2 (pc := 955) rw_0_955 (v := (1 : Int32)) (by decide +kernel) ?_
    refine op_x (pc := 956) rw_0_956 (k := 1) (by decide +kernel) hx1 ?_
    refine to_an (pc := 957) rw_0_957 rfl ?_
    refine to_i (pc := 958) rw_0_958 rfl ?_
    refine to_c (pc := 960) rw_0_960 (x := (2 : Int32)) rfl rfl ?_
    refine to_2 (pc := 961) rw_0_961 (v := (2 : Int32)) (by decide +kernel) ?_
    refine op_x (pc := 962) rw_0_962 (k := 2) (by decide +kernel) hx2 ?_
    refine to_i2l (pc := 963) rw_0_963 rfl ?_
    refine to_c (pc := 964) rw_0_964 (x := (32 : Int32)) rfl rfl ?_
    refine to_2s (pc := 966) rw_0_966 rfl ?_
    refine to_an (pc := 967) rw_0_967 rfl ?_
    refine to_i (pc := 968) rw_0_968 rfl ?_
    refine to_c (pc := 970) rw_0_970 (x := (3 : Int32)) rfl rfl ?_
    refine to_2 (pc := 971) rw_0_971 (v := (3 : Int32)) (by decide +kernel) ?_
    refine op_x (pc := 972) rw_0_972 (k := 3) (by decide +kernel) hx3 ?_
    refine to_i2l (pc := 973) rw_0_973 rfl ?_
    refine to_cl (pc := 974) rw_0_974 (x := (4294967295 : Int64)) rfl rfl ?_
    refine to_2l (pc := 977) rw_0_977 rfl ?_
    refine to_2l (pc := 978) rw_0_978 rfl ?_
    refine to_v (pc := 979) rw_0_979 (hi := rfl) (ls0 := [.ref 77, .int _, .long _, .null, .null, .null]) rfl (Nat.le_of_ble_eq_true rfl) (Nat.le_of_ble_eq_true rfl) rfl (to_rc rfl rfl rfl fO_fr_M_77_11) rfl ?_
    refine to_an (pc := 0) rw_208_0 rfl ?_
    refine to_c (pc := 1) rw_208_1 (x := (0 : Int32)) rfl rfl ?_
    refine tt_pI (pc := 2) rw_208_2 fO_fr_M_77_11 ?_
    refine to_in (pc := 5) rw_208_5 rfl ?_
    refine to_s (pc := 6) rw_208_6 (ls0 := [.int _]) rfl (Nat.le_of_ble_eq_true rfl) (Nat.le_of_ble_eq_true rfl) rfl (to_rcs rfl rfl) rfl ?_
    refine to_in (pc := 0) rw_205_0 rfl ?_
    refine to_ift (pc := 1) rw_205_1 (cd_of (c := .lt) (show x1.toInt < (0 : Int32).toInt from (by have e1 : (0 : Int32).toInt = 0 := rfl; omega))) ?_
    refine to_c (pc := 14) rw_205_14 (x := (0 : Int32)) rfl rfl ?_
    refine to_r1 (pc := 15) rw_205_15 (by decide +kernel) ?_
    refine to_iff (pc := 9) rw_208_9 (by decide +kernel) ?_
    refine to_c (pc := 12) rw_208_12 (x := (-1 : Int32)) rfl rfl ?_
    refine to_r0 (pc := 13) rw_208_13 ?_
    refine to_ict (pc := 982) rw_0_982 (by decide +kernel) ?_
    exact op_tail (op_c fC_fr_M)
  · refine to_iff (pc := 1) rw_143_1 (cd_no (c := .lt) (show ¬ x1.toInt < (0 : Int32).toInt from (by have e1 : (0 : Int32).toInt = 0 := rfl; omega))) ?_
    refine to_in (pc := 4) rw_143_4 rfl ?_
    refine to_c (pc := 5) rw_143_5 (x := (6 : Int32)) rfl rfl ?_
    rcases Int.lt_or_le x1.toInt (6) with h2 | h2
    · refine to_icf (pc := 7) rw_143_7 (cd_no (c := .ge) (show ¬ x1.toInt ≥ (6 : Int32).toInt from (by have e1 : (6 : Int32).toInt = 6 := rfl; omega))) ?_
      refine to_c (pc := 10) rw_143_10 (x := (1 : Int32)) rfl rfl ?_
      refine to_go (pc := 11) rw_143_11 ?_
      refine to_r1 (pc := 15) rw_143_15 (by decide +kernel) ?_
      refine to_ift (pc := 4) rw_129_4 (by decide +kernel) ?_
      refine to_an (pc := 9) rw_129_9 rfl ?_
      refine to_v (pc := 10) rw_129_10 (hi := rfl) (ls0 := [.ref 0]) rfl (Nat.le_of_ble_eq_true rfl) (Nat.le_of_ble_eq_true rfl) rfl (to_rc rfl rfl rfl fO_fr_M_0_10) rfl ?_
      refine (fr_9_T HM) ?_
      refine to_an (pc := 13) rw_129_13 rfl ?_
      refine tt_gR (pc := 14) rw_129_14 fO_fr_9_0_10 fR_fr_9_0_3 ?_
      refine to_an (pc := 17) rw_129_17 rfl ?_
      refine tt_gR (pc := 18) rw_129_18 fO_fr_9_0_10 fR_fr_9_0_2 ?_
      refine to_an (pc := 21) rw_129_21 rfl ?_
      refine tt_gR (pc := 22) rw_129_22 fO_fr_9_0_10 fR_fr_9_0_8 ?_
      refine tt_gI (pc := 25) rw_129_25 fO_fr_9_49_5 fI_fr_9_49_0 ?_
      refine to_v (pc := 28) rw_129_28 (hi := rfl) (ls0 := [.ref 17, .ref 11, .int (10 : Int32), .null, .null]) rfl (Nat.le_of_ble_eq_true rfl) (Nat.le_of_ble_eq_true rfl) rfl (to_rc rfl rfl rfl fO_fr_9_17_4) rfl ?_
      refine (fr_10_T HM) ?_
      refine to_an (pc := 31) rw_129_31 rfl ?_
      refine tt_gR (pc := 32) rw_129_32 fO_fr_10_0_10 fR_fr_10_0_3 ?_
      refine to_in (pc := 35) rw_129_35 rfl ?_
      refine to_ln (pc := 36) rw_129_36 rfl rfl rfl ?_
      refine to_c (pc := 37) rw_129_37 (x := (0 : Int32)) rfl rfl ?_
      refine to_an (pc := 38) rw_129_38 rfl ?_
      refine tt_gR (pc := 39) rw_129_39 fO_fr_10_0_10 fR_fr_10_0_8 ?_
      refine tt_gI (pc := 42) rw_129_42 fO_fr_10_49_5 fI_fr_10_49_0 ?_
      refine to_c (pc := 45) rw_129_45 (x := (1 : Int32)) rfl rfl ?_
      refine to_2 (pc := 46) rw_129_46 (v := (9 : Int32)) (by decide +kernel) ?_
      refine to_s (pc := 47) rw_129_47 (ls0 := [.int (0 : Int32), .int (9 : Int32)]) rfl (Nat.le_of_ble_eq_true rfl) (Nat.le_of_ble_eq_true rfl) rfl (to_rcs rfl rfl) rfl ?_
      refine to_cl (pc := 0) rw_144_0 (x := (1 : Int64)) rfl rfl ?_
      refine to_in (pc := 1) rw_144_1 rfl ?_
      refine to_in (pc := 2) rw_144_2 rfl ?_
      refine to_2 (pc := 3) rw_144_3 (v := (9 : Int32)) (by decide +kernel) ?_
      refine to_c (pc := 4) rw_144_4 (x := (1 : Int32)) rfl rfl ?_
      refine to_2 (pc := 5) rw_144_5 (v := (10 : Int32)) (by decide +kernel) ?_
      refine to_2s (pc := 6) rw_144_6 (v := (1024 : Int64)) (by decide +kernel) ?_
      refine to_cl (pc := 7) rw_144_7 (x := (1 : Int64)) rfl rfl ?_
      refine to_2l (pc := 8) rw_144_8 (v := (1023 : Int64)) (by decide +kernel) ?_
      refine to_in (pc := 9) rw_144_9 rfl ?_
      refine to_2s (pc := 10) rw_144_10 (v := (1023 : Int64)) (by decide +kernel) ?_
      refine to_rl (pc := 11) rw_144_11 ?_
      refine to_2l (pc := 50) rw_129_50 rfl ?_
      refine to_v (pc := 51) rw_129_51 (hi := rfl) (ls0 := [.ref 17, .int _, .long _, .null, .null, .null, .null]) rfl (Nat.le_of_ble_eq_true rfl) (Nat.le_of_ble_eq_true rfl) rfl (to_rc rfl rfl rfl fO_fr_10_17_4) rfl ?_
      refine to_c (pc := 0) rw_27_0 (x := (0 : Int32)) rfl rfl ?_
      refine to_is (pc := 1) rw_27_1 (ls2 := [.ref 17, .int _, .long _, .null, .int (0 : Int32), .null, .null]) rfl rfl ?_
      refine to_c (pc := 3) rw_27_3 (x := (0 : Int32)) rfl rfl ?_
      refine to_is (pc := 4) rw_27_4 (ls2 := [.ref 17, .int _, .long _, .null, .int (0 : Int32), .int (0 : Int32), .null]) rfl rfl ?_
      refine to_i (pc := 6) rw_27_6 rfl ?_
      refine to_an (pc := 8) rw_27_8 rfl ?_
      refine tt_gR (pc := 9) rw_27_9 fO_fr_10_17_4 fR_fr_10_17_1 ?_
      refine to_in (pc := 12) rw_27_12 rfl ?_
      by_cases h3 : x1 = (0 : Int32)
      · subst h3
        refine tt_ial (pc := 13) rw_27_13 rfl fO_fr_10_25_100 (op_j fN_fr_10_25_0 (by decide +kernel)) fI_fr_10_25_0 ?_
        refine to_ict (pc := 14) rw_27_14 (by decide +kernel) ?_
        refine to_i (pc := 53) rw_27_53 rfl ?_
        refine to_r0 (pc := 55) rw_27_55 ?_
        refine to_r0 (pc := 54) rw_129_54 ?_
        refine to_an (pc := 950) rw_0_950 rfl ?_
        refine to_an (pc := 951) rw_0_951 rfl ?_
        refine to_i (pc := 952) rw_0_952 rfl ?_
        refine to_c (pc := 954) rw_0_954 (x := (1 : Int32)) rfl rfl ?_
        refine to_2 (pc := 955) rw_0_955 (v := (1 : Int32)) (by decide +kernel) ?_
        refine op_x (pc := 956) rw_0_956 (k := 1) (by decide +kernel) hx1 ?_
        refine to_an (pc := 957) rw_0_957 rfl ?_
        refine to_i (pc := 958) rw_0_958 rfl ?_
        refine to_c (pc := 960) rw_0_960 (x := (2 : Int32)) rfl rfl ?_
        refine to_2 (pc := 961) rw_0_961 (v := (2 : Int32)) (by decide +kernel) ?_
        refine op_x (pc := 962) rw_0_962 (k := 2) (by decide +kernel) hx2 ?_
        refine to_i2l (pc := 963) rw_0_963 rfl ?_
        refine to_c (pc := 964) rw_0_964 (x := (32 : Int32)) rfl rfl ?_
        refine to_2s (pc := 966) rw_0_966 rfl ?_
        refine to_an (pc := 967) rw_0_967 rfl ?_
        refine to_i (pc := 968) rw_0_968 rfl ?_
        refine to_c (pc := 970) rw_0_970 (x := (3 : Int32)) rfl rfl ?_
        refine to_2 (pc := 971) rw_0_971 (v := (3 : Int32)) (by decide +kernel) ?_
        refine op_x (pc := 972) rw_0_972 (k := 3) (by decide +kernel) hx3 ?_
        refine to_i2l (pc := 973) rw_0_973 rfl ?_
        refine to_cl (pc := 974) rw_0_974 (x := (4294967295 : Int64)) rfl rfl ?_
        refine to_2l (pc := 977) rw_0_977 rfl ?_
        refine to_2l (pc := 978) rw_0_978 rfl ?_
        refine to_v (pc := 979) rw_0_979 (hi := rfl) (ls0 := [.ref 77, .int (0 : Int32), .long _, .null, .null, .null]) rfl (Nat.le_of_ble_eq_true rfl) (Nat.le_of_ble_eq_true rfl) rfl (to_rc rfl rfl rfl fO_fr_10_77_11) rfl ?_
        refine to_an (pc := 0) rw_208_0 rfl ?_
        refine to_c (pc := 1) rw_208_1 (x := (0 : Int32)) rfl rfl ?_
        refine tt_pI (pc := 2) rw_208_2 fO_fr_10_77_11 ?_
        refine to_in (pc := 5) rw_208_5 rfl ?_
        refine to_s (pc := 6) rw_208_6 (ls0 := [.int (0 : Int32)]) rfl (Nat.le_of_ble_eq_true rfl) (Nat.le_of_ble_eq_true rfl) rfl (to_rcs rfl rfl) rfl ?_
        refine to_in (pc := 0) rw_205_0 rfl ?_
        refine to_iff (pc := 1) rw_205_1 (by decide +kernel) ?_
        refine to_in (pc := 4) rw_205_4 rfl ?_
        refine to_c (pc := 5) rw_205_5 (x := (6 : Int32)) rfl rfl ?_
        refine to_icf (pc := 7) rw_205_7 (by decide +kernel) ?_
        refine to_c (pc := 10) rw_205_10 (x := (1 : Int32)) rfl rfl ?_
        refine to_go (pc := 11) rw_205_11 ?_
        refine to_r1 (pc := 15) rw_205_15 (by decide +kernel) ?_
        refine to_ift (pc := 9) rw_208_9 (by decide +kernel) ?_
        refine to_an (pc := 14) rw_208_14 rfl ?_
        refine to_an (pc := 15) rw_208_15 rfl ?_
        refine tt_gI (pc := 16) rw_208_16 fO_fr_10_77_11 (rI_n rfl fI_fr_10_77_29) ?_
        refine to_v (pc := 19) rw_208_19 (hi := rfl) (ls0 := [.ref 77, .int (0 : Int32), .null, .null]) rfl (Nat.le_of_ble_eq_true rfl) (Nat.le_of_ble_eq_true rfl) rfl (to_rc rfl rfl rfl fO_fr_10_77_11) rfl ?_
        refine to_c (pc := 0) rw_189_0 (x := (0 : Int32)) rfl rfl ?_
        refine to_isn (pc := 1) rw_189_1 (ls2 := [.ref 77, .int (0 : Int32), .int (0 : Int32), .null]) rfl rfl ?_
        refine to_in (pc := 2) rw_189_2 rfl ?_
        refine to_in (pc := 3) rw_189_3 rfl ?_
        refine to_ict (pc := 4) rw_189_4 (by decide +kernel) ?_
        refine to_in (pc := 20) rw_189_20 rfl ?_
        refine to_c (pc := 21) rw_189_21 (x := (1 : Int32)) rfl rfl ?_
        refine to_2 (pc := 22) rw_189_22 (v := (-1 : Int32)) (by decide +kernel) ?_
        refine to_isn (pc := 23) rw_189_23 (ls2 := [.ref 77, .int (0 : Int32), .int (-1 : Int32), .null]) rfl rfl ?_
        refine to_in (pc := 24) rw_189_24 rfl ?_
        refine to_ift (pc := 25) rw_189_25 (by decide +kernel) ?_
        refine to_c (pc := 65) rw_189_65 (x := (0 : Int32)) rfl rfl ?_
        refine to_isn (pc := 66) rw_189_66 (ls2 := [.ref 77, .int (0 : Int32), .int (0 : Int32), .null]) rfl rfl ?_
        refine to_in (pc := 67) rw_189_67 rfl ?_
        refine to_an (pc := 68) rw_189_68 rfl ?_
        refine tt_gI (pc := 69) rw_189_69 fO_fr_10_77_11 (rI_n rfl fI_fr_10_77_13) ?_
        refine to_ict (pc := 72) rw_189_72 (by decide +kernel) ?_
        refine to_c (pc := 93) rw_189_93 (x := (0 : Int32)) rfl rfl ?_
        refine to_isn (pc := 94) rw_189_94 (ls2 := [.ref 77, .int (0 : Int32), .int (0 : Int32), .null]) rfl rfl ?_
        refine to_in (pc := 95) rw_189_95 rfl ?_
        refine to_an (pc := 96) rw_189_96 rfl ?_
        refine tt_gI (pc := 97) rw_189_97 fO_fr_10_77_11 (rI_n rfl fI_fr_10_77_28) ?_
        refine to_ict (pc := 100) rw_189_100 (by decide +kernel) ?_
        refine to_c (pc := 149) rw_189_149 (x := (0 : Int32)) rfl rfl ?_
        refine to_isn (pc := 150) rw_189_150 (ls2 := [.ref 77, .int (0 : Int32), .int (0 : Int32), .null]) rfl rfl ?_
        refine to_in (pc := 151) rw_189_151 rfl ?_
        refine to_in (pc := 152) rw_189_152 rfl ?_
        refine to_ict (pc := 153) rw_189_153 (by decide +kernel) ?_
        refine to_rv (pc := 176) rw_189_176 ?_
        refine to_c (pc := 22) rw_208_22 (x := (0 : Int32)) rfl rfl ?_
        refine to_is (pc := 23) rw_208_23 (ls2 := [.ref 77, .int (0 : Int32), .long _, .null, .int (0 : Int32), .null]) rfl rfl ?_
        refine to_c (pc := 25) rw_208_25 (x := (0 : Int32)) rfl rfl ?_
        refine to_is (pc := 26) rw_208_26 (ls2 := [.ref 77, .int (0 : Int32), .long _, .null, .int (0 : Int32), .int (0 : Int32)]) rfl rfl ?_
        refine to_i (pc := 28) rw_208_28 rfl ?_
        refine to_an (pc := 30) rw_208_30 rfl ?_
        refine tt_gR (pc := 31) rw_208_31 fO_fr_10_77_11 fR_fr_10_77_40 ?_
        refine to_in (pc := 34) rw_208_34 rfl ?_
        refine tt_ial (pc := 35) rw_208_35 rfl fO_fr_10_100_100 (op_j fN_fr_10_100_0 (by decide +kernel)) (rI_n rfl fI_fr_10_100_0) ?_
        refine to_ict (pc := 36) rw_208_36 (by decide +kernel) ?_
        refine to_i (pc := 88) rw_208_88 rfl ?_
        refine to_r0 (pc := 90) rw_208_90 ?_
        refine to_ict (pc := 982) rw_0_982 (by decide +kernel) ?_
        exact op_tail (op_c fC_fr_10)
      · have h3 := cd_ne h3
        by_cases h4 : x1 = (1 : Int32)
        · subst h4
          refine tt_ial (pc := 13) rw_27_13 rfl fO_fr_10_25_100 (op_j fN_fr_10_25_0 (by decide +kernel)) fI_fr_10_25_1 ?_
          refine to_ict (pc := 14) rw_27_14 (by decide +kernel) ?_
          refine to_i (pc := 53) rw_27_53 rfl ?_
          refine to_r0 (pc := 55) rw_27_55 ?_
          refine to_r0 (pc := 54) rw_129_54 ?_
          refine to_an (pc := 950) rw_0_950 rfl ?_
          refine to_an (pc := 951) rw_0_951 rfl ?_
          refine to_i (pc := 952) rw_0_952 rfl ?_
          refine to_c (pc := 954) rw_0_954 (x := (1 : Int32)) rfl rfl ?_
          refine to_2 (pc := 955) rw_0_955 (v := (1 : Int32)) (by decide +kernel) ?_
          refine op_x (pc := 956) rw_0_956 (k := 1) (by decide +kernel) hx1 ?_
          refine to_an (pc := 957) rw_0_957 rfl ?_
          refine to_i (pc := 958) rw_0_958 rfl ?_
          refine to_c (pc := 960) rw_0_960 (x := (2 : Int32)) rfl rfl ?_
          refine to_2 (pc := 961) rw_0_961 (v := (2 : Int32)) (by decide +kernel) ?_
          refine op_x (pc := 962) rw_0_962 (k := 2) (by decide +kernel) hx2 ?_
          refine to_i2l (pc := 963) rw_0_963 rfl ?_
          refine to_c (pc := 964) rw_0_964 (x := (32 : Int32)) rfl rfl ?_
          refine to_2s (pc := 966) rw_0_966 rfl ?_
          refine to_an (pc := 967) rw_0_967 rfl ?_
          refine to_i (pc := 968) rw_0_968 rfl ?_
          refine to_c (pc := 970) rw_0_970 (x := (3 : Int32)) rfl rfl ?_
          refine to_2 (pc := 971) rw_0_971 (v := (3 : Int32)) (by decide +kernel) ?_
          refine op_x (pc := 972) rw_0_972 (k := 3) (by decide +kernel) hx3 ?_
          refine to_i2l (pc := 973) rw_0_973 rfl ?_
          refine to_cl (pc := 974) rw_0_974 (x := (4294967295 : Int64)) rfl rfl ?_
          refine to_2l (pc := 977) rw_0_977 rfl ?_
          refine to_2l (pc := 978) rw_0_978 rfl ?_
          refine to_v (pc := 979) rw_0_979 (hi := rfl) (ls0 := [.ref 77, .int (1 : Int32), .long _, .null, .null, .null]) rfl (Nat.le_of_ble_eq_true rfl) (Nat.le_of_ble_eq_true rfl) rfl (to_rc rfl rfl rfl fO_fr_10_77_11) rfl ?_
          refine to_an (pc := 0) rw_208_0 rfl ?_
          refine to_c (pc := 1) rw_208_1 (x := (0 : Int32)) rfl rfl ?_
          refine tt_pI (pc := 2) rw_208_2 fO_fr_10_77_11 ?_
          refine to_in (pc := 5) rw_208_5 rfl ?_
          refine to_s (pc := 6) rw_208_6 (ls0 := [.int (1 : Int32)]) rfl (Nat.le_of_ble_eq_true rfl) (Nat.le_of_ble_eq_true rfl) rfl (to_rcs rfl rfl) rfl ?_
          refine to_in (pc := 0) rw_205_0 rfl ?_
          refine to_iff (pc := 1) rw_205_1 (by decide +kernel) ?_
          refine to_in (pc := 4) rw_205_4 rfl ?_
          refine to_c (pc := 5) rw_205_5 (x := (6 : Int32)) rfl rfl ?_
          refine to_icf (pc := 7) rw_205_7 (by decide +kernel) ?_
          refine to_c (pc := 10) rw_205_10 (x := (1 : Int32)) rfl rfl ?_
          refine to_go (pc := 11) rw_205_11 ?_
          refine to_r1 (pc := 15) rw_205_15 (by decide +kernel) ?_
          refine to_ift (pc := 9) rw_208_9 (by decide +kernel) ?_
          refine to_an (pc := 14) rw_208_14 rfl ?_
          refine to_an (pc := 15) rw_208_15 rfl ?_
          refine tt_gI (pc := 16) rw_208_16 fO_fr_10_77_11 (rI_n rfl fI_fr_10_77_29) ?_
          refine to_v (pc := 19) rw_208_19 (hi := rfl) (ls0 := [.ref 77, .int (0 : Int32), .null, .null]) rfl (Nat.le_of_ble_eq_true rfl) (Nat.le_of_ble_eq_true rfl) rfl (to_rc rfl rfl rfl fO_fr_10_77_11) rfl ?_
          refine to_c (pc := 0) rw_189_0 (x := (0 : Int32)) rfl rfl ?_
          refine to_isn (pc := 1) rw_189_1 (ls2 := [.ref 77, .int (0 : Int32), .int (0 : Int32), .null]) rfl rfl ?_
          refine to_in (pc := 2) rw_189_2 rfl ?_
          refine to_in (pc := 3) rw_189_3 rfl ?_
          refine to_ict (pc := 4) rw_189_4 (by decide +kernel) ?_
          refine to_in (pc := 20) rw_189_20 rfl ?_
          refine to_c (pc := 21) rw_189_21 (x := (1 : Int32)) rfl rfl ?_
          refine to_2 (pc := 22) rw_189_22 (v := (-1 : Int32)) (by decide +kernel) ?_
          refine to_isn (pc := 23) rw_189_23 (ls2 := [.ref 77, .int (0 : Int32), .int (-1 : Int32), .null]) rfl rfl ?_
          refine to_in (pc := 24) rw_189_24 rfl ?_
          refine to_ift (pc := 25) rw_189_25 (by decide +kernel) ?_
          refine to_c (pc := 65) rw_189_65 (x := (0 : Int32)) rfl rfl ?_
          refine to_isn (pc := 66) rw_189_66 (ls2 := [.ref 77, .int (0 : Int32), .int (0 : Int32), .null]) rfl rfl ?_
          refine to_in (pc := 67) rw_189_67 rfl ?_
          refine to_an (pc := 68) rw_189_68 rfl ?_
          refine tt_gI (pc := 69) rw_189_69 fO_fr_10_77_11 (rI_n rfl fI_fr_10_77_13) ?_
          refine to_ict (pc := 72) rw_189_72 (by decide +kernel) ?_
          refine to_c (pc := 93) rw_189_93 (x := (0 : Int32)) rfl rfl ?_
          refine to_isn (pc := 94) rw_189_94 (ls2 := [.ref 77, .int (0 : Int32), .int (0 : Int32), .null]) rfl rfl ?_
          refine to_in (pc := 95) rw_189_95 rfl ?_
          refine to_an (pc := 96) rw_189_96 rfl ?_
          refine tt_gI (pc := 97) rw_189_97 fO_fr_10_77_11 (rI_n rfl fI_fr_10_77_28) ?_
          refine to_ict (pc := 100) rw_189_100 (by decide +kernel) ?_
          refine to_c (pc := 149) rw_189_149 (x := (0 : Int32)) rfl rfl ?_
          refine to_isn (pc := 150) rw_189_150 (ls2 := [.ref 77, .int (0 : Int32), .int (0 : Int32), .null]) rfl rfl ?_
          refine to_in (pc := 151) rw_189_151 rfl ?_
          refine to_in (pc := 152) rw_189_152 rfl ?_
          refine to_ict (pc := 153) rw_189_153 (by decide +kernel) ?_
          refine to_rv (pc := 176) rw_189_176 ?_
          refine to_c (pc := 22) rw_208_22 (x := (0 : Int32)) rfl rfl ?_
          refine to_is (pc := 23) rw_208_23 (ls2 := [.ref 77, .int (1 : Int32), .long _, .null, .int (0 : Int32), .null]) rfl rfl ?_
          refine to_c (pc := 25) rw_208_25 (x := (0 : Int32)) rfl rfl ?_
          refine to_is (pc := 26) rw_208_26 (ls2 := [.ref 77, .int (1 : Int32), .long _, .null, .int (0 : Int32), .int (0 : Int32)]) rfl rfl ?_
          refine to_i (pc := 28) rw_208_28 rfl ?_
          refine to_an (pc := 30) rw_208_30 rfl ?_
          refine tt_gR (pc := 31) rw_208_31 fO_fr_10_77_11 fR_fr_10_77_40 ?_
          refine to_in (pc := 34) rw_208_34 rfl ?_
          refine tt_ial (pc := 35) rw_208_35 rfl fO_fr_10_100_100 (op_j fN_fr_10_100_0 (by decide +kernel)) (rI_n rfl fI_fr_10_100_1) ?_
          refine to_ict (pc := 36) rw_208_36 (by decide +kernel) ?_
          refine to_i (pc := 88) rw_208_88 rfl ?_
          refine to_r0 (pc := 90) rw_208_90 ?_
          refine to_ict (pc := 982) rw_0_982 (by decide +kernel) ?_
          exact op_tail (op_c fC_fr_10)
        · have h4 := cd_ne h4
          by_cases h5 : x1 = (2 : Int32)
          · subst h5
            refine tt_ial (pc := 13) rw_27_13 rfl fO_fr_10_25_100 (op_j fN_fr_10_25_0 (by decide +kernel)) fI_fr_10_25_2 ?_
            refine to_ict (pc := 14) rw_27_14 (by decide +kernel) ?_
            refine to_i (pc := 53) rw_27_53 rfl ?_
            refine to_r0 (pc := 55) rw_27_55 ?_
            refine to_r0 (pc := 54) rw_129_54 ?_
            refine to_an (pc := 950) rw_0_950 rfl ?_
            refine to_an (pc := 951) rw_0_951 rfl ?_
            refine to_i (pc := 952) rw_0_952 rfl ?_
            refine to_c (pc := 954) rw_0_954 (x := (1 : Int32)) rfl rfl ?_
            refine to_2 (pc := 955) rw_0_955 (v := (1 : Int32)) (by decide +kernel) ?_
            refine op_x (pc := 956) rw_0_956 (k := 1) (by decide +kernel) hx1 ?_
            refine to_an (pc := 957) rw_0_957 rfl ?_
            refine to_i (pc := 958) rw_0_958 rfl ?_
            refine to_c (pc := 960) rw_0_960 (x := (2 : Int32)) rfl rfl ?_
            refine to_2 (pc := 961) rw_0_961 (v := (2 : Int32)) (by decide +kernel) ?_
            refine op_x (pc := 962) rw_0_962 (k := 2) (by decide +kernel) hx2 ?_
            refine to_i2l (pc := 963) rw_0_963 rfl ?_
            refine to_c (pc := 964) rw_0_964 (x := (32 : Int32)) rfl rfl ?_
            refine to_2s (pc := 966) rw_0_966 rfl ?_
            refine to_an (pc := 967) rw_0_967 rfl ?_
            refine to_i (pc := 968) rw_0_968 rfl ?_
            refine to_c (pc := 970) rw_0_970 (x := (3 : Int32)) rfl rfl ?_
            refine to_2 (pc := 971) rw_0_971 (v := (3 : Int32)) (by decide +kernel) ?_
            refine op_x (pc := 972) rw_0_972 (k := 3) (by decide +kernel) hx3 ?_
            refine to_i2l (pc := 973) rw_0_973 rfl ?_
            refine to_cl (pc := 974) rw_0_974 (x := (4294967295 : Int64)) rfl rfl ?_
            refine to_2l (pc := 977) rw_0_977 rfl ?_
            refine to_2l (pc := 978) rw_0_978 rfl ?_
            refine to_v (pc := 979) rw_0_979 (hi := rfl) (ls0 := [.ref 77, .int (2 : Int32), .long _, .null, .null, .null]) rfl (Nat.le_of_ble_eq_true rfl) (Nat.le_of_ble_eq_true rfl) rfl (to_rc rfl rfl rfl fO_fr_10_77_11) rfl ?_
            refine to_an (pc := 0) rw_208_0 rfl ?_
            refine to_c (pc := 1) rw_208_1 (x := (0 : Int32)) rfl rfl ?_
            refine tt_pI (pc := 2) rw_208_2 fO_fr_10_77_11 ?_
            refine to_in (pc := 5) rw_208_5 rfl ?_
            refine to_s (pc := 6) rw_208_6 (ls0 := [.int (2 : Int32)]) rfl (Nat.le_of_ble_eq_true rfl) (Nat.le_of_ble_eq_true rfl) rfl (to_rcs rfl rfl) rfl ?_
            refine to_in (pc := 0) rw_205_0 rfl ?_
            refine to_iff (pc := 1) rw_205_1 (by decide +kernel) ?_
            refine to_in (pc := 4) rw_205_4 rfl ?_
            refine to_c (pc := 5) rw_205_5 (x := (6 : Int32)) rfl rfl ?_
            refine to_icf (pc := 7) rw_205_7 (by decide +kernel) ?_
            refine to_c (pc := 10) rw_205_10 (x := (1 : Int32)) rfl rfl ?_
            refine to_go (pc := 11) rw_205_11 ?_
            refine to_r1 (pc := 15) rw_205_15 (by decide +kernel) ?_
            refine to_ift (pc := 9) rw_208_9 (by decide +kernel) ?_
            refine to_an (pc := 14) rw_208_14 rfl ?_
            refine to_an (pc := 15) rw_208_15 rfl ?_
            refine tt_gI (pc := 16) rw_208_16 fO_fr_10_77_11 (rI_n rfl fI_fr_10_77_29) ?_
            refine to_v (pc := 19) rw_208_19 (hi := rfl) (ls0 := [.ref 77, .int (0 : Int32), .null, .null]) rfl (Nat.le_of_ble_eq_true rfl) (Nat.le_of_ble_eq_true rfl) rfl (to_rc rfl rfl rfl fO_fr_10_77_11) rfl ?_
            refine to_c (pc := 0) rw_189_0 (x := (0 : Int32)) rfl rfl ?_
            refine to_isn (pc := 1) rw_189_1 (ls2 := [.ref 77, .int (0 : Int32), .int (0 : Int32), .null]) rfl rfl ?_
            refine to_in (pc := 2) rw_189_2 rfl ?_
            refine to_in (pc := 3) rw_189_3 rfl ?_
            refine to_ict (pc := 4) rw_189_4 (by decide +kernel) ?_
            refine to_in (pc := 20) rw_189_20 rfl ?_
            refine to_c (pc := 21) rw_189_21 (x := (1 : Int32)) rfl rfl ?_
            refine to_2 (pc := 22) rw_189_22 (v := (-1 : Int32)) (by decide +kernel) ?_
            refine to_isn (pc := 23) rw_189_23 (ls2 := [.ref 77, .int (0 : Int32), .int (-1 : Int32), .null]) rfl rfl ?_
            refine to_in (pc := 24) rw_189_24 rfl ?_
            refine to_ift (pc := 25) rw_189_25 (by decide +kernel) ?_
            refine to_c (pc := 65) rw_189_65 (x := (0 : Int32)) rfl rfl ?_
            refine to_isn (pc := 66) rw_189_66 (ls2 := [.ref 77, .int (0 : Int32), .int (0 : Int32), .null]) rfl rfl ?_
            refine to_in (pc := 67) rw_189_67 rfl ?_
            refine to_an (pc := 68) rw_189_68 rfl ?_
            refine tt_gI (pc := 69) rw_189_69 fO_fr_10_77_11 (rI_n rfl fI_fr_10_77_13) ?_
            refine to_ict (pc := 72) rw_189_72 (by decide +kernel) ?_
            refine to_c (pc := 93) rw_189_93 (x := (0 : Int32)) rfl rfl ?_
            refine to_isn (pc := 94) rw_189_94 (ls2 := [.ref 77, .int (0 : Int32), .int (0 : Int32), .null]) rfl rfl ?_
            refine to_in (pc := 95) rw_189_95 rfl ?_
            refine to_an (pc := 96) rw_189_96 rfl ?_
            refine tt_gI (pc := 97) rw_189_97 fO_fr_10_77_11 (rI_n rfl fI_fr_10_77_28) ?_
            refine to_ict (pc := 100) rw_189_100 (by decide +kernel) ?_
            refine to_c (pc := 149) rw_189_149 (x := (0 : Int32)) rfl rfl ?_
            refine to_isn (pc := 150) rw_189_150 (ls2 := [.ref 77, .int (0 : Int32), .int (0 : Int32), .null]) rfl rfl ?_
            refine to_in (pc := 151) rw_189_151 rfl ?_
            refine to_in (pc := 152) rw_189_152 rfl ?_
            refine to_ict (pc := 153) rw_189_153 (by decide +kernel) ?_
            refine to_rv (pc := 176) rw_189_176 ?_
            refine to_c (pc := 22) rw_208_22 (x := (0 : Int32)) rfl rfl ?_
            refine to_is (pc := 23) rw_208_23 (ls2 := [.ref 77, .int (2 : Int32), .long _, .null, .int (0 : Int32), .null]) rfl rfl ?_
            refine to_c (pc := 25) rw_208_25 (x := (0 : Int32)) rfl rfl ?_
            refine to_is (pc := 26) rw_208_26 (ls2 := [.ref 77, .int (2 : Int32), .long _, .null, .int (0 : Int32), .int (0 : Int32)]) rfl rfl ?_
            refine to_i (pc := 28) rw_208_28 rfl ?_
            refine to_an (pc := 30) rw_208_30 rfl ?_
            refine tt_gR (pc := 31) rw_208_31 fO_fr_10_77_11 fR_fr_10_77_40 ?_
            refine to_in (pc := 34) rw_208_34 rfl ?_
            refine tt_ial (pc := 35) rw_208_35 rfl fO_fr_10_100_100 (op_j fN_fr_10_100_0 (by decide +kernel)) (rI_n rfl fI_fr_10_100_2) ?_
            refine to_ict (pc := 36) rw_208_36 (by decide +kernel) ?_
            refine to_i (pc := 88) rw_208_88 rfl ?_
            refine to_r0 (pc := 90) rw_208_90 ?_
            refine to_ict (pc := 982) rw_0_982 (by decide +kernel) ?_
            exact op_tail (op_c fC_fr_10)
          · have h5 := cd_ne h5
            by_cases h6 : x1 = (3 : Int32)
            · subst h6
              refine tt_ial (pc := 13) rw_27_13 rfl fO_fr_10_25_100 (op_j fN_fr_10_25_0 (by decide +kernel)) fI_fr_10_25_3 ?_
              refine to_ict (pc := 14) rw_27_14 (by decide +kernel) ?_
              refine to_i (pc := 53) rw_27_53 rfl ?_
              refine to_r0 (pc := 55) rw_27_55 ?_
              refine to_r0 (pc := 54) rw_129_54 ?_
              refine to_an (pc := 950) rw_0_950 rfl ?_
              refine to_an (pc := 951) rw_0_951 rfl ?_
              refine to_i (pc := 952) rw_0_952 rfl ?_
              refine to_c (pc := 954) rw_0_954 (x := (1 : Int32)) rfl rfl ?_
              refine to_2 (pc := 955) rw_0_955 (v := (1 : Int32)) (by decide +kernel) ?_
              refine op_x (pc := 956) rw_0_956 (k := 1) (by decide +kernel) hx1 ?_
              refine to_an (pc := 957) rw_0_957 rfl ?_
              refine to_i (pc := 958) rw_0_958 rfl ?_
              refine to_c (pc := 960) rw_0_960 (x := (2 : Int32)) rfl rfl ?_
              refine to_2 (pc := 961) rw_0_961 (v := (2 : Int32)) (by decide +kernel) ?_
              refine op_x (pc := 962) rw_0_962 (k := 2) (by decide +kernel) hx2 ?_
              refine to_i2l (pc := 963) rw_0_963 rfl ?_
              refine to_c (pc := 964) rw_0_964 (x := (32 : Int32)) rfl rfl ?_
              refine to_2s (pc := 966) rw_0_966 rfl ?_
              refine to_an (pc := 967) rw_0_967 rfl ?_
              refine to_i (pc := 968) rw_0_968 rfl ?_
              refine to_c (pc := 970) rw_0_970 (x := (3 : Int32)) rfl rfl ?_
              refine to_2 (pc := 971) rw_0_971 (v := (3 : Int32)) (by decide +kernel) ?_
              refine op_x (pc := 972) rw_0_972 (k := 3) (by decide +kernel) hx3 ?_
              refine to_i2l (pc := 973) rw_0_973 rfl ?_
              refine to_cl (pc := 974) rw_0_974 (x := (4294967295 : Int64)) rfl rfl ?_
              refine to_2l (pc := 977) rw_0_977 rfl ?_
              refine to_2l (pc := 978) rw_0_978 rfl ?_
              refine to_v (pc := 979) rw_0_979 (hi := rfl) (ls0 := [.ref 77, .int (3 : Int32), .long _, .null, .null, .null]) rfl (Nat.le_of_ble_eq_true rfl) (Nat.le_of_ble_eq_true rfl) rfl (to_rc rfl rfl rfl fO_fr_10_77_11) rfl ?_
              refine to_an (pc := 0) rw_208_0 rfl ?_
              refine to_c (pc := 1) rw_208_1 (x := (0 : Int32)) rfl rfl ?_
              refine tt_pI (pc := 2) rw_208_2 fO_fr_10_77_11 ?_
              refine to_in (pc := 5) rw_208_5 rfl ?_
              refine to_s (pc := 6) rw_208_6 (ls0 := [.int (3 : Int32)]) rfl (Nat.le_of_ble_eq_true rfl) (Nat.le_of_ble_eq_true rfl) rfl (to_rcs rfl rfl) rfl ?_
              refine to_in (pc := 0) rw_205_0 rfl ?_
              refine to_iff (pc := 1) rw_205_1 (by decide +kernel) ?_
              refine to_in (pc := 4) rw_205_4 rfl ?_
              refine to_c (pc := 5) rw_205_5 (x := (6 : Int32)) rfl rfl ?_
              refine to_icf (pc := 7) rw_205_7 (by decide +kernel) ?_
              refine to_c (pc := 10) rw_205_10 (x := (1 : Int32)) rfl rfl ?_
              refine to_go (pc := 11) rw_205_11 ?_
              refine to_r1 (pc := 15) rw_205_15 (by decide +kernel) ?_
              refine to_ift (pc := 9) rw_208_9 (by decide +kernel) ?_
              refine to_an (pc := 14) rw_208_14 rfl ?_
              refine to_an (pc := 15) rw_208_15 rfl ?_
              refine tt_gI (pc := 16) rw_208_16 fO_fr_10_77_11 (rI_n rfl fI_fr_10_77_29) ?_
              refine to_v (pc := 19) rw_208_19 (hi := rfl) (ls0 := [.ref 77, .int (0 : Int32), .null, .null]) rfl (Nat.le_of_ble_eq_true rfl) (Nat.le_of_ble_eq_true rfl) rfl (to_rc rfl rfl rfl fO_fr_10_77_11) rfl ?_
              refine to_c (pc := 0) rw_189_0 (x := (0 : Int32)) rfl rfl ?_
              refine to_isn (pc := 1) rw_189_1 (ls2 := [.ref 77, .int (0 : Int32), .int (0 : Int32), .null]) rfl rfl ?_
              refine to_in (pc := 2) rw_189_2 rfl ?_
              refine to_in (pc := 3) rw_189_3 rfl ?_
              refine to_ict (pc := 4) rw_189_4 (by decide +kernel) ?_
              refine to_in (pc := 20) rw_189_20 rfl ?_
              refine to_c (pc := 21) rw_189_21 (x := (1 : Int32)) rfl rfl ?_
              refine to_2 (pc := 22) rw_189_22 (v := (-1 : Int32)) (by decide +kernel) ?_
              refine to_isn (pc := 23) rw_189_23 (ls2 := [.ref 77, .int (0 : Int32), .int (-1 : Int32), .null]) rfl rfl ?_
              refine to_in (pc := 24) rw_189_24 rfl ?_
              refine to_ift (pc := 25) rw_189_25 (by decide +kernel) ?_
              refine to_c (pc := 65) rw_189_65 (x := (0 : Int32)) rfl rfl ?_
              refine to_isn (pc := 66) rw_189_66 (ls2 := [.ref 77, .int (0 : Int32), .int (0 : Int32), .null]) rfl rfl ?_
              refine to_in (pc := 67) rw_189_67 rfl ?_
              refine to_an (pc := 68) rw_189_68 rfl ?_
              refine tt_gI (pc := 69) rw_189_69 fO_fr_10_77_11 (rI_n rfl fI_fr_10_77_13) ?_
              refine to_ict (pc := 72) rw_189_72 (by decide +kernel) ?_
              refine to_c (pc := 93) rw_189_93 (x := (0 : Int32)) rfl rfl ?_
              refine to_isn (pc := 94) rw_189_94 (ls2 := [.ref 77, .int (0 : Int32), .int (0 : Int32), .null]) rfl rfl ?_
              refine to_in (pc := 95) rw_189_95 rfl ?_
              refine to_an (pc := 96) rw_189_96 rfl ?_
              refine tt_gI (pc := 97) rw_189_97 fO_fr_10_77_11 (rI_n rfl fI_fr_10_77_28) ?_
              refine to_ict (pc := 100) rw_189_100 (by decide +kernel) ?_
              refine to_c (pc := 149) rw_189_149 (x := (0 : Int32)) rfl rfl ?_
              refine to_isn (pc := 150) rw_189_150 (ls2 := [.ref 77, .int (0 : Int32), .int (0 : Int32), .null]) rfl rfl ?_
              refine to_in (pc := 151) rw_189_151 rfl ?_
              refine to_in (pc := 152) rw_189_152 rfl ?_
              refine to_ict (pc := 153) rw_189_153 (by decide +kernel) ?_
              refine to_rv (pc := 176) rw_189_176 ?_
              refine to_c (pc := 22) rw_208_22 (x := (0 : Int32)) rfl rfl ?_
              refine to_is (pc := 23) rw_208_23 (ls2 := [.ref 77, .int (3 : Int32), .long _, .null, .int (0 : Int32), .null]) rfl rfl ?_
              refine to_c (pc := 25) rw_208_25 (x := (0 : Int32)) rfl rfl ?_
              refine to_is (pc := 26) rw_208_26 (ls2 := [.ref 77, .int (3 : Int32), .long _, .null, .int (0 : Int32), .int (0 : Int32)]) rfl rfl ?_
              refine to_i (pc := 28) rw_208_28 rfl ?_
              refine to_an (pc := 30) rw_208_30 rfl ?_
              refine tt_gR (pc := 31) rw_208_31 fO_fr_10_77_11 fR_fr_10_77_40 ?_
              refine to_in (pc := 34) rw_208_34 rfl ?_
              refine tt_ial (pc := 35) rw_208_35 rfl fO_fr_10_100_100 (op_j fN_fr_10_100_0 (by decide +kernel)) (rI_n rfl fI_fr_10_100_3) ?_
              refine to_ict (pc := 36) rw_208_36 (by decide +kernel) ?_
              refine to_i (pc := 88) rw_208_88 rfl ?_
              refine to_r0 (pc := 90) rw_208_90 ?_
              refine to_ict (pc := 982) rw_0_982 (by decide +kernel) ?_
              exact op_tail (op_c fC_fr_10)
            · have h6 := cd_ne h6
              by_cases h7 : x1 = (4 : Int32)
              · subst h7
                refine tt_ial (pc := 13) rw_27_13 rfl fO_fr_10_25_100 (op_j fN_fr_10_25_0 (by decide +kernel)) fI_fr_10_25_4 ?_
                refine to_ict (pc := 14) rw_27_14 (by decide +kernel) ?_
                refine to_i (pc := 53) rw_27_53 rfl ?_
                refine to_r0 (pc := 55) rw_27_55 ?_
                refine to_r0 (pc := 54) rw_129_54 ?_
                refine to_an (pc := 950) rw_0_950 rfl ?_
                refine to_an (pc := 951) rw_0_951 rfl ?_
                refine to_i (pc := 952) rw_0_952 rfl ?_
                refine to_c (pc := 954) rw_0_954 (x := (1 : Int32)) rfl rfl ?_
                refine to_2 (pc := 955) rw_0_955 (v := (1 : Int32)) (by decide +kernel) ?_
                refine op_x (pc := 956) rw_0_956 (k := 1) (by decide +kernel) hx1 ?_
                refine to_an (pc := 957) rw_0_957 rfl ?_
                refine to_i (pc := 958) rw_0_958 rfl ?_
                refine to_c (pc := 960) rw_0_960 (x := (2 : Int32)) rfl rfl ?_
                refine to_2 (pc := 961) rw_0_961 (v := (2 : Int32)) (by decide +kernel) ?_
                refine op_x (pc := 962) rw_0_962 (k := 2) (by decide +kernel) hx2 ?_
                refine to_i2l (pc := 963) rw_0_963 rfl ?_
                refine to_c (pc := 964) rw_0_964 (x := (32 : Int32)) rfl rfl ?_
                refine to_2s (pc := 966) rw_0_966 rfl ?_
                refine to_an (pc := 967) rw_0_967 rfl ?_
                refine to_i (pc := 968) rw_0_968 rfl ?_
                refine to_c (pc := 970) rw_0_970 (x := (3 : Int32)) rfl rfl ?_
                refine to_2 (pc := 971) rw_0_971 (v := (3 : Int32)) (by decide +kernel) ?_
                refine op_x (pc := 972) rw_0_972 (k := 3) (by decide +kernel) hx3 ?_
                refine to_i2l (pc := 973) rw_0_973 rfl ?_
                refine to_cl (pc := 974) rw_0_974 (x := (4294967295 : Int64)) rfl rfl ?_
                refine to_2l (pc := 977) rw_0_977 rfl ?_
                refine to_2l (pc := 978) rw_0_978 rfl ?_
                refine to_v (pc := 979) rw_0_979 (hi := rfl) (ls0 := [.ref 77, .int (4 : Int32), .long _, .null, .null, .null]) rfl (Nat.le_of_ble_eq_true rfl) (Nat.le_of_ble_eq_true rfl) rfl (to_rc rfl rfl rfl fO_fr_10_77_11) rfl ?_
                refine to_an (pc := 0) rw_208_0 rfl ?_
                refine to_c (pc := 1) rw_208_1 (x := (0 : Int32)) rfl rfl ?_
                refine tt_pI (pc := 2) rw_208_2 fO_fr_10_77_11 ?_
                refine to_in (pc := 5) rw_208_5 rfl ?_
                refine to_s (pc := 6) rw_208_6 (ls0 := [.int (4 : Int32)]) rfl (Nat.le_of_ble_eq_true rfl) (Nat.le_of_ble_eq_true rfl) rfl (to_rcs rfl rfl) rfl ?_
                refine to_in (pc := 0) rw_205_0 rfl ?_
                refine to_iff (pc := 1) rw_205_1 (by decide +kernel) ?_
                refine to_in (pc := 4) rw_205_4 rfl ?_
                refine to_c (pc := 5) rw_205_5 (x := (6 : Int32)) rfl rfl ?_
                refine to_icf (pc := 7) rw_205_7 (by decide +kernel) ?_
                refine to_c (pc := 10) rw_205_10 (x := (1 : Int32)) rfl rfl ?_
                refine to_go (pc := 11) rw_205_11 ?_
                refine to_r1 (pc := 15) rw_205_15 (by decide +kernel) ?_
                refine to_ift (pc := 9) rw_208_9 (by decide +kernel) ?_
                refine to_an (pc := 14) rw_208_14 rfl ?_
                refine to_an (pc := 15) rw_208_15 rfl ?_
                refine tt_gI (pc := 16) rw_208_16 fO_fr_10_77_11 (rI_n rfl fI_fr_10_77_29) ?_
                refine to_v (pc := 19) rw_208_19 (hi := rfl) (ls0 := [.ref 77, .int (0 : Int32), .null, .null]) rfl (Nat.le_of_ble_eq_true rfl) (Nat.le_of_ble_eq_true rfl) rfl (to_rc rfl rfl rfl fO_fr_10_77_11) rfl ?_
                refine to_c (pc := 0) rw_189_0 (x := (0 : Int32)) rfl rfl ?_
                refine to_isn (pc := 1) rw_189_1 (ls2 := [.ref 77, .int (0 : Int32), .int (0 : Int32), .null]) rfl rfl ?_
                refine to_in (pc := 2) rw_189_2 rfl ?_
                refine to_in (pc := 3) rw_189_3 rfl ?_
                refine to_ict (pc := 4) rw_189_4 (by decide +kernel) ?_
                refine to_in (pc := 20) rw_189_20 rfl ?_
                refine to_c (pc := 21) rw_189_21 (x := (1 : Int32)) rfl rfl ?_
                refine to_2 (pc := 22) rw_189_22 (v := (-1 : Int32)) (by decide +kernel) ?_
                refine to_isn (pc := 23) rw_189_23 (ls2 := [.ref 77, .int (0 : Int32), .int (-1 : Int32), .null]) rfl rfl ?_
                refine to_in (pc := 24) rw_189_24 rfl ?_
                refine to_ift (pc := 25) rw_189_25 (by decide +kernel) ?_
                refine to_c (pc := 65) rw_189_65 (x := (0 : Int32)) rfl rfl ?_
                refine to_isn (pc := 66) rw_189_66 (ls2 := [.ref 77, .int (0 : Int32), .int (0 : Int32), .null]) rfl rfl ?_
                refine to_in (pc := 67) rw_189_67 rfl ?_
                refine to_an (pc := 68) rw_189_68 rfl ?_
                refine tt_gI (pc := 69) rw_189_69 fO_fr_10_77_11 (rI_n rfl fI_fr_10_77_13) ?_
                refine to_ict (pc := 72) rw_189_72 (by decide +kernel) ?_
                refine to_c (pc := 93) rw_189_93 (x := (0 : Int32)) rfl rfl ?_
                refine to_isn (pc := 94) rw_189_94 (ls2 := [.ref 77, .int (0 : Int32), .int (0 : Int32), .null]) rfl rfl ?_
                refine to_in (pc := 95) rw_189_95 rfl ?_
                refine to_an (pc := 96) rw_189_96 rfl ?_
                refine tt_gI (pc := 97) rw_189_97 fO_fr_10_77_11 (rI_n rfl fI_fr_10_77_28) ?_
                refine to_ict (pc := 100) rw_189_100 (by decide +kernel) ?_
                refine to_c (pc := 149) rw_189_149 (x := (0 : Int32)) rfl rfl ?_
                refine to_isn (pc := 150) rw_189_150 (ls2 := [.ref 77, .int (0 : Int32), .int (0 : Int32), .null]) rfl rfl ?_
                refine to_in (pc := 151) rw_189_151 rfl ?_
                refine to_in (pc := 152) rw_189_152 rfl ?_
                refine to_ict (pc := 153) rw_189_153 (by decide +kernel) ?_
                refine to_rv (pc := 176) rw_189_176 ?_
                refine to_c (pc := 22) rw_208_22 (x := (0 : Int32)) rfl rfl ?_
                refine to_is (pc := 23) rw_208_23 (ls2 := [.ref 77, .int (4 : Int32), .long _, .null, .int (0 : Int32), .null]) rfl rfl ?_
                refine to_c (pc := 25) rw_208_25 (x := (0 : Int32)) rfl rfl ?_
                refine to_is (pc := 26) rw_208_26 (ls2 := [.ref 77, .int (4 : Int32), .long _, .null, .int (0 : Int32), .int (0 : Int32)]) rfl rfl ?_
                refine to_i (pc := 28) rw_208_28 rfl ?_
                refine to_an (pc := 30) rw_208_30 rfl ?_
                refine tt_gR (pc := 31) rw_208_31 fO_fr_10_77_11 fR_fr_10_77_40 ?_
                refine to_in (pc := 34) rw_208_34 rfl ?_
                refine tt_ial (pc := 35) rw_208_35 rfl fO_fr_10_100_100 (op_j fN_fr_10_100_0 (by decide +kernel)) (rI_n rfl fI_fr_10_100_4) ?_
                refine to_ict (pc := 36) rw_208_36 (by decide +kernel) ?_
                refine to_i (pc := 88) rw_208_88 rfl ?_
                refine to_r0 (pc := 90) rw_208_90 ?_
                refine to_ict (pc := 982) rw_0_982 (by decide +kernel) ?_
                exact op_tail (op_c fC_fr_10)
              · have h7 := cd_ne h7
                by_cases h8 : x1 = (5 : Int32)
                · subst h8
                  refine tt_ial (pc := 13) rw_27_13 rfl fO_fr_10_25_100 (op_j fN_fr_10_25_0 (by decide +kernel)) fI_fr_10_25_5 ?_
                  refine to_ict (pc := 14) rw_27_14 (by decide +kernel) ?_
                  refine to_i (pc := 53) rw_27_53 rfl ?_
                  refine to_r0 (pc := 55) rw_27_55 ?_
                  refine to_r0 (pc := 54) rw_129_54 ?_
                  refine to_an (pc := 950) rw_0_950 rfl ?_
                  refine to_an (pc := 951) rw_0_951 rfl ?_
                  refine to_i (pc := 952) rw_0_952 rfl ?_
                  refine to_c (pc := 954) rw_0_954 (x := (1 : Int32)) rfl rfl ?_
                  refine to_2 (pc := 955) rw_0_955 (v := (1 : Int32)) (by decide +kernel) ?_
                  refine op_x (pc := 956) rw_0_956 (k := 1) (by decide +kernel) hx1 ?_
                  refine to_an (pc := 957) rw_0_957 rfl ?_
                  refine to_i (pc := 958) rw_0_958 rfl ?_
                  refine to_c (pc := 960) rw_0_960 (x := (2 : Int32)) rfl rfl ?_
                  refine to_2 (pc := 961) rw_0_961 (v := (2 : Int32)) (by decide +kernel) ?_
                  refine op_x (pc := 962) rw_0_962 (k := 2) (by decide +kernel) hx2 ?_
                  refine to_i2l (pc := 963) rw_0_963 rfl ?_
                  refine to_c (pc := 964) rw_0_964 (x := (32 : Int32)) rfl rfl ?_
                  refine to_2s (pc := 966) rw_0_966 rfl ?_
                  refine to_an (pc := 967) rw_0_967 rfl ?_
                  refine to_i (pc := 968) rw_0_968 rfl ?_
                  refine to_c (pc := 970) rw_0_970 (x := (3 : Int32)) rfl rfl ?_
                  refine to_2 (pc := 971) rw_0_971 (v := (3 : Int32)) (by decide +kernel) ?_
                  refine op_x (pc := 972) rw_0_972 (k := 3) (by decide +kernel) hx3 ?_
                  refine to_i2l (pc := 973) rw_0_973 rfl ?_
                  refine to_cl (pc := 974) rw_0_974 (x := (4294967295 : Int64)) rfl rfl ?_
                  refine to_2l (pc := 977) rw_0_977 rfl ?_
                  refine to_2l (pc := 978) rw_0_978 rfl ?_
                  refine to_v (pc := 979) rw_0_979 (hi := rfl) (ls0 := [.ref 77, .int (5 : Int32), .long _, .null, .null, .null]) rfl (Nat.le_of_ble_eq_true rfl) (Nat.le_of_ble_eq_true rfl) rfl (to_rc rfl rfl rfl fO_fr_10_77_11) rfl ?_
                  refine to_an (pc := 0) rw_208_0 rfl ?_
                  refine to_c (pc := 1) rw_208_1 (x := (0 : Int32)) rfl rfl ?_
                  refine tt_pI (pc := 2) rw_208_2 fO_fr_10_77_11 ?_
                  refine to_in (pc := 5) rw_208_5 rfl ?_
                  refine to_s (pc := 6) rw_208_6 (ls0 := [.int (5 : Int32)]) rfl (Nat.le_of_ble_eq_true rfl) (Nat.le_of_ble_eq_true rfl) rfl (to_rcs rfl rfl) rfl ?_
                  refine to_in (pc := 0) rw_205_0 rfl ?_
                  refine to_iff (pc := 1) rw_205_1 (by decide +kernel) ?_
                  refine to_in (pc := 4) rw_205_4 rfl ?_
                  refine to_c (pc := 5) rw_205_5 (x := (6 : Int32)) rfl rfl ?_
                  refine to_icf (pc := 7) rw_205_7 (by decide +kernel) ?_
                  refine to_c (pc := 10) rw_205_10 (x := (1 : Int32)) rfl rfl ?_
                  refine to_go (pc := 11) rw_205_11 ?_
                  refine to_r1 (pc := 15) rw_205_15 (by decide +kernel) ?_
                  refine to_ift (pc := 9) rw_208_9 (by decide +kernel) ?_
                  refine to_an (pc := 14) rw_208_14 rfl ?_
                  refine to_an (pc := 15) rw_208_15 rfl ?_
                  refine tt_gI (pc := 16) rw_208_16 fO_fr_10_77_11 (rI_n rfl fI_fr_10_77_29) ?_
                  refine to_v (pc := 19) rw_208_19 (hi := rfl) (ls0 := [.ref 77, .int (0 : Int32), .null, .null]) rfl (Nat.le_of_ble_eq_true rfl) (Nat.le_of_ble_eq_true rfl) rfl (to_rc rfl rfl rfl fO_fr_10_77_11) rfl ?_
                  refine to_c (pc := 0) rw_189_0 (x := (0 : Int32)) rfl rfl ?_
                  refine to_isn (pc := 1) rw_189_1 (ls2 := [.ref 77, .int (0 : Int32), .int (0 : Int32), .null]) rfl rfl ?_
                  refine to_in (pc := 2) rw_189_2 rfl ?_
                  refine to_in (pc := 3) rw_189_3 rfl ?_
                  refine to_ict (pc := 4) rw_189_4 (by decide +kernel) ?_
                  refine to_in (pc := 20) rw_189_20 rfl ?_
                  refine to_c (pc := 21) rw_189_21 (x := (1 : Int32)) rfl rfl ?_
                  refine to_2 (pc := 22) rw_189_22 (v := (-1 : Int32)) (by decide +kernel) ?_
                  refine to_isn (pc := 23) rw_189_23 (ls2 := [.ref 77, .int (0 : Int32), .int (-1 : Int32), .null]) rfl rfl ?_
                  refine to_in (pc := 24) rw_189_24 rfl ?_
                  refine to_ift (pc := 25) rw_189_25 (by decide +kernel) ?_
                  refine to_c (pc := 65) rw_189_65 (x := (0 : Int32)) rfl rfl ?_
                  refine to_isn (pc := 66) rw_189_66 (ls2 := [.ref 77, .int (0 : Int32), .int (0 : Int32), .null]) rfl rfl ?_
                  refine to_in (pc := 67) rw_189_67 rfl ?_
                  refine to_an (pc := 68) rw_189_68 rfl ?_
                  refine tt_gI (pc := 69) rw_189_69 fO_fr_10_77_11 (rI_n rfl fI_fr_10_77_13) ?_
                  refine to_ict (pc := 72) rw_189_72 (by decide +kernel) ?_
                  refine to_c (pc := 93) rw_189_93 (x := (0 : Int32)) rfl rfl ?_
                  refine to_isn (pc := 94) rw_189_94 (ls2 := [.ref 77, .int (0 : Int32), .int (0 : Int32), .null]) rfl rfl ?_
                  refine to_in (pc := 95) rw_189_95 rfl ?_
                  refine to_an (pc := 96) rw_189_96 rfl ?_
                  refine tt_gI (pc := 97) rw_189_97 fO_fr_10_77_11 (rI_n rfl fI_fr_10_77_28) ?_
                  refine to_ict (pc := 100) rw_189_100 (by decide +kernel) ?_
                  refine to_c (pc := 149) rw_189_149 (x := (0 : Int32)) rfl rfl ?_
                  refine to_isn (pc := 150) rw_189_150 (ls2 := [.ref 77, .int (0 : Int32), .int (0 : Int32), .null]) rfl rfl ?_
                  refine to_in (pc := 151) rw_189_151 rfl ?_
                  refine to_in (pc := 152) rw_189_152 rfl ?_
                  refine to_ict (pc := 153) rw_189_153 (by decide +kernel) ?_
                  refine to_rv (pc := 176) rw_189_176 ?_
                  refine to_c (pc := 22) rw_208_22 (x := (0 : Int32)) rfl rfl ?_
                  refine to_is (pc := 23) rw_208_23 (ls2 := [.ref 77, .int (5 : Int32), .long _, .null, .int (0 : Int32), .null]) rfl rfl ?_
                  refine to_c (pc := 25) rw_208_25 (x := (0 : Int32)) rfl rfl ?_
                  refine to_is (pc := 26) rw_208_26 (ls2 := [.ref 77, .int (5 : Int32), .long _, .null, .int (0 : Int32), .int (0 : Int32)]) rfl rfl ?_
                  refine to_i (pc := 28) rw_208_28 rfl ?_
                  refine to_an (pc := 30) rw_208_30 rfl ?_
                  refine tt_gR (pc := 31) rw_208_31 fO_fr_10_77_11 fR_fr_10_77_40 ?_
                  refine to_in (pc := 34) rw_208_34 rfl ?_
                  refine tt_ial (pc := 35) rw_208_35 rfl fO_fr_10_100_100 (op_j fN_fr_10_100_0 (by decide +kernel)) (rI_n rfl fI_fr_10_100_5) ?_
                  refine to_ict (pc := 36) rw_208_36 (by decide +kernel) ?_
                  refine to_i (pc := 88) rw_208_88 rfl ?_
                  refine to_r0 (pc := 90) rw_208_90 ?_
                  refine to_ict (pc := 982) rw_0_982 (by decide +kernel) ?_
                  exact op_tail (op_c fC_fr_10)
                · have h8 := cd_ne h8
                  exact absurd rfl (by have e0 : (0 : Int32).toInt = 0 := rfl; have e1 : (1 : Int32).toInt = 1 := rfl; have e2 : (2 : Int32).toInt = 2 := rfl; have e3 : (3 : Int32).toInt = 3 := rfl; have e4 : (4 : Int32).toInt = 4 := rfl; have e5 : (5 : Int32).toInt = 5 := rfl; omega : ¬ ((0 : Nat) = 0))
    · refine to_ict (pc := 7) rw_143_7 (cd_of (c := .ge) (show x1.toInt ≥ (6 : Int32).toInt from (by have e1 : (6 : Int32).toInt = 6 := rfl; omega))) ?_
      refine to_c (pc := 14) rw_143_14 (x := (0 : Int32)) rfl rfl ?_
      refine to_r1 (pc := 15) rw_143_15 (by decide +kernel) ?_
      refine to_iff (pc := 4) rw_129_4 (by decide +kernel) ?_
      refine to_c (pc := 7) rw_129_7 (x := (-1 : Int32)) rfl rfl ?_
      refine to_r0 (pc := 8) rw_129_8 ?_
      refine to_an (pc := 950) rw_0_950 rfl ?_
      refine to_an (pc := 951) rw_0_951 rfl ?_
      refine to_i (pc := 952) rw_0_952 rfl ?_
      refine to_c (pc := 954) rw_0_954 (x := (1 : Int32)) rfl rfl ?_
      refine to_2 (pc := 955) rw_0_955 (v := (1 : Int32)) (by decide +kernel) ?_
      refine op_x (pc := 956) rw_0_956 (k := 1) (by decide +kernel) hx1 ?_
      refine to_an (pc := 957) rw_0_957 rfl ?_
      refine to_i (pc := 958) rw_0_958 rfl ?_
      refine to_c (pc := 960) rw_0_960 (x := (2 : Int32)) rfl rfl ?_
      refine to_2 (pc := 961) rw_0_961 (v := (2 : Int32)) (by decide +kernel) ?_
      refine op_x (pc := 962) rw_0_962 (k := 2) (by decide +kernel) hx2 ?_
      refine to_i2l (pc := 963) rw_0_963 rfl ?_
      refine to_c (pc := 964) rw_0_964 (x := (32 : Int32)) rfl rfl ?_
      refine to_2s (pc := 966) rw_0_966 rfl ?_
      refine to_an (pc := 967) rw_0_967 rfl ?_
      refine to_i (pc := 968) rw_0_968 rfl ?_
      refine to_c (pc := 970) rw_0_970 (x := (3 : Int32)) rfl rfl ?_
      refine to_2 (pc := 971) rw_0_971 (v := (3 : Int32)) (by decide +kernel) ?_
      refine op_x (pc := 972) rw_0_972 (k := 3) (by decide +kernel) hx3 ?_
      refine to_i2l (pc := 973) rw_0_973 rfl ?_
      refine to_cl (pc := 974) rw_0_974 (x := (4294967295 : Int64)) rfl rfl ?_
      refine to_2l (pc := 977) rw_0_977 rfl ?_
      refine to_2l (pc := 978) rw_0_978 rfl ?_
      refine to_v (pc := 979) rw_0_979 (hi := rfl) (ls0 := [.ref 77, .int _, .long _, .null, .null, .null]) rfl (Nat.le_of_ble_eq_true rfl) (Nat.le_of_ble_eq_true rfl) rfl (to_rc rfl rfl rfl fO_fr_M_77_11) rfl ?_
      refine to_an (pc := 0) rw_208_0 rfl ?_
      refine to_c (pc := 1) rw_208_1 (x := (0 : Int32)) rfl rfl ?_
      refine tt_pI (pc := 2) rw_208_2 fO_fr_M_77_11 ?_
      refine to_in (pc := 5) rw_208_5 rfl ?_
      refine to_s (pc := 6) rw_208_6 (ls0 := [.int _]) rfl (Nat.le_of_ble_eq_true rfl) (Nat.le_of_ble_eq_true rfl) rfl (to_rcs rfl rfl) rfl ?_
      refine to_in (pc := 0) rw_205_0 rfl ?_
      refine to_iff (pc := 1) rw_205_1 (cd_no (c := .lt) (show ¬ x1.toInt < (0 : Int32).toInt from (by have e1 : (0 : Int32).toInt = 0 := rfl; omega))) ?_
      refine to_in (pc := 4) rw_205_4 rfl ?_
      refine to_c (pc := 5) rw_205_5 (x := (6 : Int32)) rfl rfl ?_
      refine to_ict (pc := 7) rw_205_7 (cd_of (c := .ge) (show x1.toInt ≥ (6 : Int32).toInt from (by have e1 : (6 : Int32).toInt = 6 := rfl; omega))) ?_
      refine to_c (pc := 14) rw_205_14 (x := (0 : Int32)) rfl rfl ?_
      refine to_r1 (pc := 15) rw_205_15 (by decide +kernel) ?_
      refine to_iff (pc := 9) rw_208_9 (by decide +kernel) ?_
      refine to_c (pc := 12) rw_208_12 (x := (-1 : Int32)) rfl rfl ?_
      refine to_r0 (pc := 13) rw_208_13 ?_
      refine to_ict (pc := 982) rw_0_982 (by decide +kernel) ?_
      exact op_tail (op_c fC_fr_M)
set_option maxHeartbeats 0 in
set_option maxRecDepth 4000 in
theorem op_21 {fr_M fr_1 fr_2 fr_3 fr_4 fr_5 fr_6 fr_7 fr_8 fr_9 fr_10 fr_11 fr_12 : mm_M} (HM : fr_Eq fr_M fr_1 fr_2 fr_3 fr_4 fr_5 fr_6 fr_7 fr_8 fr_9 fr_10 fr_11 fr_12) {xs : Nat → Int32} {x1 x2 x3 x4 x5 : Int32} (hx1 : xs 1 = x1) (hx2 : xs 2 = x2) (hx3 : xs 3 = x3) (hx4 : xs 4 = x4) (hx5 : xs 5 = x5) : mm_T (fr_X 6 xs) 40 0 987 [.ref mm_ext, .ref 0, .ref 77, .ref 125, .int 0, .null, .null] [] fr_M op_Q := by
  have z0 : (0 : Int32).toInt = 0 := rfl
  have fC_fr_12 := fC_fr_12 HM
  have fO_fr_11_77_11 := fO_fr_11_77_11 HM
  have fO_fr_M_0_10 := fO_fr_M_0_10 HM
  refine to_an (pc := 987) rw_0_987 rfl ?_
  refine to_v (pc := 988) rw_0_988 (hi := rfl) (ls0 := [.ref 0, .null]) rfl (Nat.le_of_ble_eq_true rfl) (Nat.le_of_ble_eq_true rfl) rfl (to_rc rfl rfl rfl fO_fr_M_0_10) rfl ?_
  refine (fr_11_T HM) ?_
  refine to_an (pc := 991) rw_0_991 rfl ?_
  refine to_v (pc := 992) rw_0_992 (hi := rfl) (ls0 := [.ref 77, .null]) rfl (Nat.le_of_ble_eq_true rfl) (Nat.le_of_ble_eq_true rfl) rfl (to_rc rfl rfl rfl fO_fr_11_77_11) rfl ?_
  refine (fr_12_T HM) ?_
  refine to_ict (pc := 995) rw_0_995 (by decide +kernel) ?_
  exact op_tail (op_c fC_fr_12)
set_option maxHeartbeats 0 in
set_option maxRecDepth 4000 in
theorem op_22 {fr_M fr_1 fr_2 fr_3 fr_4 fr_5 fr_6 fr_7 fr_8 fr_9 fr_10 fr_11 fr_12 : mm_M} (HM : fr_Eq fr_M fr_1 fr_2 fr_3 fr_4 fr_5 fr_6 fr_7 fr_8 fr_9 fr_10 fr_11 fr_12) {xs : Nat → Int32} {x1 x2 x3 x4 x5 : Int32} (hx1 : xs 1 = x1) (hx2 : xs 2 = x2) (hx3 : xs 3 = x3) (hx4 : xs 4 = x4) (hx5 : xs 5 = x5) : mm_T (fr_X 6 xs) 40 0 1000 [.ref mm_ext, .ref 0, .ref 77, .ref 125, .int 0, .null, .null] [] fr_M op_Q := by
  have z0 : (0 : Int32).toInt = 0 := rfl
  have fC_fr_M := fC_fr_M HM
  have fI_fr_M_67_4 := fI_fr_M_67_4 HM
  have fI_fr_M_6_0 := fI_fr_M_6_0 HM
  have fI_fr_M_77_57 := fI_fr_M_77_57 HM
  have fO_fr_M_0_10 := fO_fr_M_0_10 HM
  have fO_fr_M_67_6 := fO_fr_M_67_6 HM
  have fO_fr_M_6_3 := fO_fr_M_6_3 HM
  have fO_fr_M_77_11 := fO_fr_M_77_11 HM
  have fR_fr_M_0_1 := fR_fr_M_0_1 HM
  have fR_fr_M_0_10 := fR_fr_M_0_10 HM
  refine to_an (pc := 1000) rw_0_1000 rfl ?_
  refine to_an (pc := 1001) rw_0_1001 rfl ?_
  refine to_i (pc := 1002) rw_0_1002 rfl ?_
  refine to_c (pc := 1004) rw_0_1004 (x := (1 : Int32)) rfl rfl ?_
  refine to_2 (pc := 1005) rw_0_1005 (v := (1 : Int32)) (by decide +kernel) ?_
  refine op_x (pc := 1006) rw_0_1006 (k := 1) (by decide +kernel) hx1 ?_
  refine to_an (pc := 1007) rw_0_1007 rfl ?_
  refine to_i (pc := 1008) rw_0_1008 rfl ?_
  refine to_c (pc := 1010) rw_0_1010 (x := (2 : Int32)) rfl rfl ?_
  refine to_2 (pc := 1011) rw_0_1011 (v := (2 : Int32)) (by decide +kernel) ?_
  refine op_x (pc := 1012) rw_0_1012 (k := 2) (by decide +kernel) hx2 ?_
  refine to_v (pc := 1013) rw_0_1013 (hi := rfl) (ls0 := [.ref 0, .int _, .int _, .null, .null]) rfl (Nat.le_of_ble_eq_true rfl) (Nat.le_of_ble_eq_true rfl) rfl (to_rc rfl rfl rfl fO_fr_M_0_10) rfl ?_
  refine to_an (pc := 0) rw_131_0 rfl ?_
  refine to_in (pc := 1) rw_131_1 rfl ?_
  refine to_v (pc := 2) rw_131_2 (hi := rfl) (ls0 := [.ref 0, .int _]) rfl (Nat.le_of_ble_eq_true rfl) (Nat.le_of_ble_eq_true rfl) rfl (to_rc rfl rfl rfl fO_fr_M_0_10) rfl ?_
  refine to_in (pc := 0) rw_139_0 rfl ?_
  rcases Int.lt_or_le x1.toInt (0) with h1 | h1
  · refine to_ift (pc := 1) rw_139_1 (cd_of (c := .lt) (show x1.toInt < (0 : Int32).toInt from (by have e1 : (0 : Int32).toInt = 0 := rfl; omega))) ?_
    refine to_c (pc := 19) rw_139_19 (x := (0 : Int32)) rfl rfl ?_
    refine to_r1 (pc := 20) rw_139_20 (by decide +kernel) ?_
    refine to_ift (pc := 5) rw_131_5 (by decide +kernel) ?_
    refine to_c (pc := 27) rw_131_27 (x := (-1 : Int32)) rfl rfl ?_
    refine to_r0 (pc := 28) rw_131_28 ?_
    refine to_an (pc := 1016) rw_0_1016 rfl ?_
    refine to_an (pc := 1017) rw_0_1017 rfl ?_
    refine to_i (pc := 1018) rw_0_1018 rfl ?_
    refine to_c (pc := 1020) rw_0_1020 (x := (1 : Int32)) rfl rfl ?_
    refine to_2 (pc := 1021) rw_0_1021 (v := (1 : Int32)) (by decide +kernel) ?_
    refine op_x (pc := 1022) rw_0_1022 (k := 1) (by decide +kernel) hx1 ?_
    refine to_an (pc := 1023) rw_0_1023 rfl ?_
    refine to_i (pc := 1024) rw_0_1024 rfl ?_
    refine to_c (pc := 1026) rw_0_1026 (x := (2 : Int32)) rfl rfl ?_
    refine to_2 (pc := 1027) rw_0_1027 (v := (2 : Int32)) (by decide +kernel) ?_
    refine op_x (pc := 1028) rw_0_1028 (k := 2) (by decide +kernel) hx2 ?_
    refine to_v (pc := 1029) rw_0_1029 (hi := rfl) (ls0 := [.ref 77, .int _, .int _, .null, .null, .null]) rfl (Nat.le_of_ble_eq_true rfl) (Nat.le_of_ble_eq_true rfl) rfl (to_rc rfl rfl rfl fO_fr_M_77_11) rfl ?_
    refine to_an (pc := 0) rw_229_0 rfl ?_
    refine to_c (pc := 1) rw_229_1 (x := (0 : Int32)) rfl rfl ?_
    refine tt_pI (pc := 2) rw_229_2 fO_fr_M_77_11 ?_
    refine to_an (pc := 5) rw_229_5 rfl ?_
    refine tt_gZ (pc := 6) rw_229_6 fO_fr_M_77_11 (rI_n rfl fI_fr_M_77_57) ?_
    refine to_ift (pc := 9) rw_229_9 (by decide +kernel) ?_
    refine to_c (pc := 29) rw_229_29 (x := (-1 : Int32)) rfl rfl ?_
    refine to_r0 (pc := 30) rw_229_30 ?_
    refine to_ict (pc := 1032) rw_0_1032 (by decide +kernel) ?_
    exact op_tail (op_c fC_fr_M)
  · refine to_iff (pc := 1) rw_139_1 (cd_no (c := .lt) (show ¬ x1.toInt < (0 : Int32).toInt from (by have e1 : (0 : Int32).toInt = 0 := rfl; omega))) ?_
    refine to_in (pc := 4) rw_139_4 rfl ?_
    refine to_an (pc := 5) rw_139_5 rfl ?_
    refine tt_gR (pc := 6) rw_139_6 fO_fr_M_0_10 fR_fr_M_0_1 ?_
    refine tt_gI (pc := 9) rw_139_9 fO_fr_M_6_3 fI_fr_M_6_0 ?_
    rcases Int.lt_or_le x1.toInt (1) with h2 | h2
    · refine to_icf (pc := 12) rw_139_12 (cd_no (c := .gt) (show ¬ x1.toInt > (0 : Int32).toInt from (by have e1 : (0 : Int32).toInt = 0 := rfl; omega))) ?_
      refine to_c (pc := 15) rw_139_15 (x := (1 : Int32)) rfl rfl ?_
      refine to_go (pc := 16) rw_139_16 ?_
      refine to_r1 (pc := 20) rw_139_20 (by decide +kernel) ?_
      refine to_iff (pc := 5) rw_131_5 (by decide +kernel) ?_
      refine to_in (pc := 8) rw_131_8 rfl ?_
      rcases Int.lt_or_le x2.toInt (0) with h3 | h3
      · refine to_ift (pc := 9) rw_131_9 (cd_of (c := .lt) (show x2.toInt < (0 : Int32).toInt from (by have e1 : (0 : Int32).toInt = 0 := rfl; omega))) ?_
        refine to_c (pc := 27) rw_131_27 (x := (-1 : Int32)) rfl rfl ?_
        refine to_r0 (pc := 28) rw_131_28 ?_
        refine to_an (pc := 1016) rw_0_1016 rfl ?_
        refine to_an (pc := 1017) rw_0_1017 rfl ?_
        refine to_i (pc := 1018) rw_0_1018 rfl ?_
        refine to_c (pc := 1020) rw_0_1020 (x := (1 : Int32)) rfl rfl ?_
        refine to_2 (pc := 1021) rw_0_1021 (v := (1 : Int32)) (by decide +kernel) ?_
        refine op_x (pc := 1022) rw_0_1022 (k := 1) (by decide +kernel) hx1 ?_
        refine to_an (pc := 1023) rw_0_1023 rfl ?_
        refine to_i (pc := 1024) rw_0_1024 rfl ?_
        refine to_c (pc := 1026) rw_0_1026 (x := (2 : Int32)) rfl rfl ?_
        refine to_2 (pc := 1027) rw_0_1027 (v := (2 : Int32)) (by decide +kernel) ?_
        refine op_x (pc := 1028) rw_0_1028 (k := 2) (by decide +kernel) hx2 ?_
        refine to_v (pc := 1029) rw_0_1029 (hi := rfl) (ls0 := [.ref 77, .int _, .int _, .null, .null, .null]) rfl (Nat.le_of_ble_eq_true rfl) (Nat.le_of_ble_eq_true rfl) rfl (to_rc rfl rfl rfl fO_fr_M_77_11) rfl ?_
        refine to_an (pc := 0) rw_229_0 rfl ?_
        refine to_c (pc := 1) rw_229_1 (x := (0 : Int32)) rfl rfl ?_
        refine tt_pI (pc := 2) rw_229_2 fO_fr_M_77_11 ?_
        refine to_an (pc := 5) rw_229_5 rfl ?_
        refine tt_gZ (pc := 6) rw_229_6 fO_fr_M_77_11 (rI_n rfl fI_fr_M_77_57) ?_
        refine to_ift (pc := 9) rw_229_9 (by decide +kernel) ?_
        refine to_c (pc := 29) rw_229_29 (x := (-1 : Int32)) rfl rfl ?_
        refine to_r0 (pc := 30) rw_229_30 ?_
        refine to_ict (pc := 1032) rw_0_1032 (by decide +kernel) ?_
        exact op_tail (op_c fC_fr_M)
      · refine to_iff (pc := 9) rw_131_9 (cd_no (c := .lt) (show ¬ x2.toInt < (0 : Int32).toInt from (by have e1 : (0 : Int32).toInt = 0 := rfl; omega))) ?_
        refine to_in (pc := 12) rw_131_12 rfl ?_
        refine to_c (pc := 13) rw_131_13 (x := (3 : Int32)) rfl rfl ?_
        rcases Int.lt_or_le x2.toInt (4) with h4 | h4
        · refine to_icf (pc := 14) rw_131_14 (cd_no (c := .gt) (show ¬ x2.toInt > (3 : Int32).toInt from (by have e1 : (3 : Int32).toInt = 3 := rfl; omega))) ?_
          refine to_an (pc := 17) rw_131_17 rfl ?_
          refine tt_gR (pc := 18) rw_131_18 fO_fr_M_0_10 fR_fr_M_0_10 ?_
          refine tt_gI (pc := 21) rw_131_21 fO_fr_M_67_6 fI_fr_M_67_4 ?_
          refine to_iff (pc := 24) rw_131_24 (by decide +kernel) ?_
          refine to_c (pc := 27) rw_131_27 (x := (-1 : Int32)) rfl rfl ?_
          refine to_r0 (pc := 28) rw_131_28 ?_
          refine to_an (pc := 1016) rw_0_1016 rfl ?_
          refine to_an (pc := 1017) rw_0_1017 rfl ?_
          refine to_i (pc := 1018) rw_0_1018 rfl ?_
          refine to_c (pc := 1020) rw_0_1020 (x := (1 : Int32)) rfl rfl ?_
          refine to_2 (pc := 1021) rw_0_1021 (v := (1 : Int32)) (by decide +kernel) ?_
          refine op_x (pc := 1022) rw_0_1022 (k := 1) (by decide +kernel) hx1 ?_
          refine to_an (pc := 1023) rw_0_1023 rfl ?_
          refine to_i (pc := 1024) rw_0_1024 rfl ?_
          refine to_c (pc := 1026) rw_0_1026 (x := (2 : Int32)) rfl rfl ?_
          refine to_2 (pc := 1027) rw_0_1027 (v := (2 : Int32)) (by decide +kernel) ?_
          refine op_x (pc := 1028) rw_0_1028 (k := 2) (by decide +kernel) hx2 ?_
          refine to_v (pc := 1029) rw_0_1029 (hi := rfl) (ls0 := [.ref 77, .int _, .int _, .null, .null, .null]) rfl (Nat.le_of_ble_eq_true rfl) (Nat.le_of_ble_eq_true rfl) rfl (to_rc rfl rfl rfl fO_fr_M_77_11) rfl ?_
          refine to_an (pc := 0) rw_229_0 rfl ?_
          refine to_c (pc := 1) rw_229_1 (x := (0 : Int32)) rfl rfl ?_
          refine tt_pI (pc := 2) rw_229_2 fO_fr_M_77_11 ?_
          refine to_an (pc := 5) rw_229_5 rfl ?_
          refine tt_gZ (pc := 6) rw_229_6 fO_fr_M_77_11 (rI_n rfl fI_fr_M_77_57) ?_
          refine to_ift (pc := 9) rw_229_9 (by decide +kernel) ?_
          refine to_c (pc := 29) rw_229_29 (x := (-1 : Int32)) rfl rfl ?_
          refine to_r0 (pc := 30) rw_229_30 ?_
          refine to_ict (pc := 1032) rw_0_1032 (by decide +kernel) ?_
          exact op_tail (op_c fC_fr_M)
        · refine to_ict (pc := 14) rw_131_14 (cd_of (c := .gt) (show x2.toInt > (3 : Int32).toInt from (by have e1 : (3 : Int32).toInt = 3 := rfl; omega))) ?_
          refine to_c (pc := 27) rw_131_27 (x := (-1 : Int32)) rfl rfl ?_
          refine to_r0 (pc := 28) rw_131_28 ?_
          refine to_an (pc := 1016) rw_0_1016 rfl ?_
          refine to_an (pc := 1017) rw_0_1017 rfl ?_
          refine to_i (pc := 1018) rw_0_1018 rfl ?_
          refine to_c (pc := 1020) rw_0_1020 (x := (1 : Int32)) rfl rfl ?_
          refine to_2 (pc := 1021) rw_0_1021 (v := (1 : Int32)) (by decide +kernel) ?_
          refine op_x (pc := 1022) rw_0_1022 (k := 1) (by decide +kernel) hx1 ?_
          refine to_an (pc := 1023) rw_0_1023 rfl ?_
          refine to_i (pc := 1024) rw_0_1024 rfl ?_
          refine to_c (pc := 1026) rw_0_1026 (x := (2 : Int32)) rfl rfl ?_
          refine to_2 (pc := 1027) rw_0_1027 (v := (2 : Int32)) (by decide +kernel) ?_
          refine op_x (pc := 1028) rw_0_1028 (k := 2) (by decide +kernel) hx2 ?_
          refine to_v (pc := 1029) rw_0_1029 (hi := rfl) (ls0 := [.ref 77, .int _, .int _, .null, .null, .null]) rfl (Nat.le_of_ble_eq_true rfl) (Nat.le_of_ble_eq_true rfl) rfl (to_rc rfl rfl rfl fO_fr_M_77_11) rfl ?_
          refine to_an (pc := 0) rw_229_0 rfl ?_
          refine to_c (pc := 1) rw_229_1 (x := (0 : Int32)) rfl rfl ?_
          refine tt_pI (pc := 2) rw_229_2 fO_fr_M_77_11 ?_
          refine to_an (pc := 5) rw_229_5 rfl ?_
          refine tt_gZ (pc := 6) rw_229_6 fO_fr_M_77_11 (rI_n rfl fI_fr_M_77_57) ?_
          refine to_ift (pc := 9) rw_229_9 (by decide +kernel) ?_
          refine to_c (pc := 29) rw_229_29 (x := (-1 : Int32)) rfl rfl ?_
          refine to_r0 (pc := 30) rw_229_30 ?_
          refine to_ict (pc := 1032) rw_0_1032 (by decide +kernel) ?_
          exact op_tail (op_c fC_fr_M)
    · refine to_ict (pc := 12) rw_139_12 (cd_of (c := .gt) (show x1.toInt > (0 : Int32).toInt from (by have e1 : (0 : Int32).toInt = 0 := rfl; omega))) ?_
      refine to_c (pc := 19) rw_139_19 (x := (0 : Int32)) rfl rfl ?_
      refine to_r1 (pc := 20) rw_139_20 (by decide +kernel) ?_
      refine to_ift (pc := 5) rw_131_5 (by decide +kernel) ?_
      refine to_c (pc := 27) rw_131_27 (x := (-1 : Int32)) rfl rfl ?_
      refine to_r0 (pc := 28) rw_131_28 ?_
      refine to_an (pc := 1016) rw_0_1016 rfl ?_
      refine to_an (pc := 1017) rw_0_1017 rfl ?_
      refine to_i (pc := 1018) rw_0_1018 rfl ?_
      refine to_c (pc := 1020) rw_0_1020 (x := (1 : Int32)) rfl rfl ?_
      refine to_2 (pc := 1021) rw_0_1021 (v := (1 : Int32)) (by decide +kernel) ?_
      refine op_x (pc := 1022) rw_0_1022 (k := 1) (by decide +kernel) hx1 ?_
      refine to_an (pc := 1023) rw_0_1023 rfl ?_
      refine to_i (pc := 1024) rw_0_1024 rfl ?_
      refine to_c (pc := 1026) rw_0_1026 (x := (2 : Int32)) rfl rfl ?_
      refine to_2 (pc := 1027) rw_0_1027 (v := (2 : Int32)) (by decide +kernel) ?_
      refine op_x (pc := 1028) rw_0_1028 (k := 2) (by decide +kernel) hx2 ?_
      refine to_v (pc := 1029) rw_0_1029 (hi := rfl) (ls0 := [.ref 77, .int _, .int _, .null, .null, .null]) rfl (Nat.le_of_ble_eq_true rfl) (Nat.le_of_ble_eq_true rfl) rfl (to_rc rfl rfl rfl fO_fr_M_77_11) rfl ?_
      refine to_an (pc := 0) rw_229_0 rfl ?_
      refine to_c (pc := 1) rw_229_1 (x := (0 : Int32)) rfl rfl ?_
      refine tt_pI (pc := 2) rw_229_2 fO_fr_M_77_11 ?_
      refine to_an (pc := 5) rw_229_5 rfl ?_
      refine tt_gZ (pc := 6) rw_229_6 fO_fr_M_77_11 (rI_n rfl fI_fr_M_77_57) ?_
      refine to_ift (pc := 9) rw_229_9 (by decide +kernel) ?_
      refine to_c (pc := 29) rw_229_29 (x := (-1 : Int32)) rfl rfl ?_
      refine to_r0 (pc := 30) rw_229_30 ?_
      refine to_ict (pc := 1032) rw_0_1032 (by decide +kernel) ?_
      exact op_tail (op_c fC_fr_M)
