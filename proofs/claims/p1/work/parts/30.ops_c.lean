/-! what each operation does on the fresh state -/
set_option maxHeartbeats 0 in
set_option maxRecDepth 4000 in
theorem op_10 {fr_M fr_1 fr_2 fr_3 fr_4 fr_5 fr_6 fr_7 fr_8 fr_9 fr_10 fr_11 fr_12 : mm_M} (HM : fr_Eq fr_M fr_1 fr_2 fr_3 fr_4 fr_5 fr_6 fr_7 fr_8 fr_9 fr_10 fr_11 fr_12) {xs : Nat → Int32} {x1 x2 x3 x4 x5 : Int32} (hx1 : xs 1 = x1) (hx2 : xs 2 = x2) (hx3 : xs 3 = x3) (hx4 : xs 4 = x4) (hx5 : xs 5 = x5) : mm_T (fr_X 6 xs) 40 0 543 [.ref mm_ext, .ref 0, .ref 77, .ref 125, .int 0, .null, .null] [] fr_M op_Q := by
  have z0 : (0 : Int32).toInt = 0 := rfl
  have fC_fr_M := fC_fr_M HM
  have fI_fr_M_0_12 := fI_fr_M_0_12 HM
  have fI_fr_M_77_28 := fI_fr_M_77_28 HM
  have fI_fr_M_77_29 := fI_fr_M_77_29 HM
  have fO_fr_M_0_10 := fO_fr_M_0_10 HM
  have fO_fr_M_77_11 := fO_fr_M_77_11 HM
  refine to_an (pc := 543) rw_0_543 rfl ?_
  refine to_an (pc := 544) rw_0_544 rfl ?_
  refine to_i (pc := 545) rw_0_545 rfl ?_
  refine to_c (pc := 547) rw_0_547 (x := (1 : Int32)) rfl rfl ?_
  refine to_2 (pc := 548) rw_0_548 (v := (1 : Int32)) (by decide +kernel) ?_
  refine op_x (pc := 549) rw_0_549 (k := 1) (by decide +kernel) hx1 ?_
  refine to_an (pc := 550) rw_0_550 rfl ?_
  refine to_i (pc := 551) rw_0_551 rfl ?_
  refine to_c (pc := 553) rw_0_553 (x := (2 : Int32)) rfl rfl ?_
  refine to_2 (pc := 554) rw_0_554 (v := (2 : Int32)) (by decide +kernel) ?_
  refine op_x (pc := 555) rw_0_555 (k := 2) (by decide +kernel) hx2 ?_
  refine to_an (pc := 556) rw_0_556 rfl ?_
  refine to_i (pc := 557) rw_0_557 rfl ?_
  refine to_c (pc := 559) rw_0_559 (x := (3 : Int32)) rfl rfl ?_
  refine to_2 (pc := 560) rw_0_560 (v := (3 : Int32)) (by decide +kernel) ?_
  refine op_x (pc := 561) rw_0_561 (k := 3) (by decide +kernel) hx3 ?_
  refine to_v (pc := 562) rw_0_562 (hi := rfl) (ls0 := [.ref 0, .int _, .int _, .int _]) rfl (Nat.le_of_ble_eq_true rfl) (Nat.le_of_ble_eq_true rfl) rfl (to_rc rfl rfl rfl fO_fr_M_0_10) rfl ?_
  refine to_an (pc := 0) rw_119_0 rfl ?_
  refine to_in (pc := 1) rw_119_1 rfl ?_
  refine to_v (pc := 2) rw_119_2 (hi := rfl) (ls0 := [.ref 0, .int _]) rfl (Nat.le_of_ble_eq_true rfl) (Nat.le_of_ble_eq_true rfl) rfl (to_rc rfl rfl rfl fO_fr_M_0_10) rfl ?_
  refine to_in (pc := 0) rw_140_0 rfl ?_
  rcases Int.lt_or_le x1.toInt (0) with h1 | h1
  · refine to_ift (pc := 1) rw_140_1 (cd_of (c := .lt) (show x1.toInt < (0 : Int32).toInt from (by have e1 : (0 : Int32).toInt = 0 := rfl; omega))) ?_
    refine to_c (pc := 16) rw_140_16 (x := (0 : Int32)) rfl rfl ?_
    refine to_r1 (pc := 17) rw_140_17 (by decide +kernel) ?_
    refine to_ift (pc := 5) rw_119_5 (by decide +kernel) ?_
    refine to_c (pc := 20) rw_119_20 (x := (-1 : Int32)) rfl rfl ?_
    refine to_r0 (pc := 21) rw_119_21 ?_
    refine to_an (pc := 565) rw_0_565 rfl ?_
    refine to_an (pc := 566) rw_0_566 rfl ?_
    refine to_i (pc := 567) rw_0_567 rfl ?_
    refine to_c (pc := 569) rw_0_569 (x := (1 : Int32)) rfl rfl ?_
    refine to_2 (pc := 570) rw_0_570 (v := (1 : Int32)) (by decide +kernel) ?_
    refine op_x (pc := 571) rw_0_571 (k := 1) (by decide +kernel) hx1 ?_
    refine to_an (pc := 572) rw_0_572 rfl ?_
    refine to_i (pc := 573) rw_0_573 rfl ?_
    refine to_c (pc := 575) rw_0_575 (x := (2 : Int32)) rfl rfl ?_
    refine to_2 (pc := 576) rw_0_576 (v := (2 : Int32)) (by decide +kernel) ?_
    refine op_x (pc := 577) rw_0_577 (k := 2) (by decide +kernel) hx2 ?_
    refine to_an (pc := 578) rw_0_578 rfl ?_
    refine to_i (pc := 579) rw_0_579 rfl ?_
    refine to_c (pc := 581) rw_0_581 (x := (3 : Int32)) rfl rfl ?_
    refine to_2 (pc := 582) rw_0_582 (v := (3 : Int32)) (by decide +kernel) ?_
    refine op_x (pc := 583) rw_0_583 (k := 3) (by decide +kernel) hx3 ?_
    refine to_v (pc := 584) rw_0_584 (hi := rfl) (ls0 := [.ref 77, .int _, .int _, .int _]) rfl (Nat.le_of_ble_eq_true rfl) (Nat.le_of_ble_eq_true rfl) rfl (to_rc rfl rfl rfl fO_fr_M_77_11) rfl ?_
    refine to_an (pc := 0) rw_194_0 rfl ?_
    refine to_c (pc := 1) rw_194_1 (x := (0 : Int32)) rfl rfl ?_
    refine tt_pI (pc := 2) rw_194_2 fO_fr_M_77_11 ?_
    refine to_an (pc := 5) rw_194_5 rfl ?_
    refine tt_gI (pc := 6) rw_194_6 fO_fr_M_77_11 (rI_n rfl fI_fr_M_77_29) ?_
    refine to_c (pc := 9) rw_194_9 (x := (150 : Int32)) rfl rfl ?_
    refine to_icf (pc := 12) rw_194_12 (by decide +kernel) ?_
    refine to_an (pc := 15) rw_194_15 rfl ?_
    refine to_in (pc := 16) rw_194_16 rfl ?_
    refine to_v (pc := 17) rw_194_17 (hi := rfl) (ls0 := [.ref 77, .int _]) rfl (Nat.le_of_ble_eq_true rfl) (Nat.le_of_ble_eq_true rfl) rfl (to_rc rfl rfl rfl fO_fr_M_77_11) rfl ?_
    refine to_in (pc := 0) rw_187_0 rfl ?_
    refine to_ift (pc := 1) rw_187_1 (cd_of (c := .lt) (show x1.toInt < (0 : Int32).toInt from (by have e1 : (0 : Int32).toInt = 0 := rfl; omega))) ?_
    refine to_c (pc := 16) rw_187_16 (x := (0 : Int32)) rfl rfl ?_
    refine to_r1 (pc := 17) rw_187_17 (by decide +kernel) ?_
    refine to_ift (pc := 20) rw_194_20 (by decide +kernel) ?_
    refine to_c (pc := 32) rw_194_32 (x := (-1 : Int32)) rfl rfl ?_
    refine to_go (pc := 33) rw_194_33 ?_
    refine to_r0 (pc := 44) rw_194_44 ?_
    refine to_ict (pc := 587) rw_0_587 (by decide +kernel) ?_
    exact op_tail (op_c fC_fr_M)
  · refine to_iff (pc := 1) rw_140_1 (cd_no (c := .lt) (show ¬ x1.toInt < (0 : Int32).toInt from (by have e1 : (0 : Int32).toInt = 0 := rfl; omega))) ?_
    refine to_in (pc := 4) rw_140_4 rfl ?_
    refine to_an (pc := 5) rw_140_5 rfl ?_
    refine tt_gI (pc := 6) rw_140_6 fO_fr_M_0_10 fI_fr_M_0_12 ?_
    refine to_ict (pc := 9) rw_140_9 (cd_of (c := .ge) (show x1.toInt ≥ (0 : Int32).toInt from (by have e1 : (0 : Int32).toInt = 0 := rfl; omega))) ?_
    refine to_c (pc := 16) rw_140_16 (x := (0 : Int32)) rfl rfl ?_
    refine to_r1 (pc := 17) rw_140_17 (by decide +kernel) ?_
    refine to_ift (pc := 5) rw_119_5 (by decide +kernel) ?_
    refine to_c (pc := 20) rw_119_20 (x := (-1 : Int32)) rfl rfl ?_
    refine to_r0 (pc := 21) rw_119_21 ?_
    refine to_an (pc := 565) rw_0_565 rfl ?_
    refine to_an (pc := 566) rw_0_566 rfl ?_
    refine to_i (pc := 567) rw_0_567 rfl ?_
    refine to_c (pc := 569) rw_0_569 (x := (1 : Int32)) rfl rfl ?_
    refine to_2 (pc := 570) rw_0_570 (v := (1 : Int32)) (by decide +kernel) ?_
    refine op_x (pc := 571) rw_0_571 (k := 1) (by decide +kernel) hx1 ?_
    refine to_an (pc := 572) rw_0_572 rfl ?_
    refine to_i (pc := 573) rw_0_573 rfl ?_
    refine to_c (pc := 575) rw_0_575 (x := (2 : Int32)) rfl rfl ?_
    refine to_2 (pc := 576) rw_0_576 (v := (2 : Int32)) (by decide +kernel) ?_
    refine op_x (pc := 577) rw_0_577 (k := 2) (by decide +kernel) hx2 ?_
    refine to_an (pc := 578) rw_0_578 rfl ?_
    refine to_i (pc := 579) rw_0_579 rfl ?_
    refine to_c (pc := 581) rw_0_581 (x := (3 : Int32)) rfl rfl ?_
    refine to_2 (pc := 582) rw_0_582 (v := (3 : Int32)) (by decide +kernel) ?_
    refine op_x (pc := 583) rw_0_583 (k := 3) (by decide +kernel) hx3 ?_
    refine to_v (pc := 584) rw_0_584 (hi := rfl) (ls0 := [.ref 77, .int _, .int _, .int _]) rfl (Nat.le_of_ble_eq_true rfl) (Nat.le_of_ble_eq_true rfl) rfl (to_rc rfl rfl rfl fO_fr_M_77_11) rfl ?_
    refine to_an (pc := 0) rw_194_0 rfl ?_
    refine to_c (pc := 1) rw_194_1 (x := (0 : Int32)) rfl rfl ?_
    refine tt_pI (pc := 2) rw_194_2 fO_fr_M_77_11 ?_
    refine to_an (pc := 5) rw_194_5 rfl ?_
    refine tt_gI (pc := 6) rw_194_6 fO_fr_M_77_11 (rI_n rfl fI_fr_M_77_29) ?_
    refine to_c (pc := 9) rw_194_9 (x := (150 : Int32)) rfl rfl ?_
    refine to_icf (pc := 12) rw_194_12 (by decide +kernel) ?_
    refine to_an (pc := 15) rw_194_15 rfl ?_
    refine to_in (pc := 16) rw_194_16 rfl ?_
    refine to_v (pc := 17) rw_194_17 (hi := rfl) (ls0 := [.ref 77, .int _]) rfl (Nat.le_of_ble_eq_true rfl) (Nat.le_of_ble_eq_true rfl) rfl (to_rc rfl rfl rfl fO_fr_M_77_11) rfl ?_
    refine to_in (pc := 0) rw_187_0 rfl ?_
    refine to_iff (pc := 1) rw_187_1 (cd_no (c := .lt) (show ¬ x1.toInt < (0 : Int32).toInt from (by have e1 : (0 : Int32).toInt = 0 := rfl; omega))) ?_
    refine to_in (pc := 4) rw_187_4 rfl ?_
    refine to_an (pc := 5) rw_187_5 rfl ?_
    refine tt_gI (pc := 6) rw_187_6 fO_fr_M_77_11 (rI_n rfl fI_fr_M_77_28) ?_
    refine to_ict (pc := 9) rw_187_9 (cd_of (c := .ge) (show x1.toInt ≥ (0 : Int32).toInt from (by have e1 : (0 : Int32).toInt = 0 := rfl; omega))) ?_
    refine to_c (pc := 16) rw_187_16 (x := (0 : Int32)) rfl rfl ?_
    refine to_r1 (pc := 17) rw_187_17 (by decide +kernel) ?_
    refine to_ift (pc := 20) rw_194_20 (by decide +kernel) ?_
    refine to_c (pc := 32) rw_194_32 (x := (-1 : Int32)) rfl rfl ?_
    refine to_go (pc := 33) rw_194_33 ?_
    refine to_r0 (pc := 44) rw_194_44 ?_
    refine to_ict (pc := 587) rw_0_587 (by decide +kernel) ?_
    exact op_tail (op_c fC_fr_M)
set_option maxHeartbeats 0 in
set_option maxRecDepth 4000 in
theorem op_11 {fr_M fr_1 fr_2 fr_3 fr_4 fr_5 fr_6 fr_7 fr_8 fr_9 fr_10 fr_11 fr_12 : mm_M} (HM : fr_Eq fr_M fr_1 fr_2 fr_3 fr_4 fr_5 fr_6 fr_7 fr_8 fr_9 fr_10 fr_11 fr_12) {xs : Nat → Int32} {x1 x2 x3 x4 x5 : Int32} (hx1 : xs 1 = x1) (hx2 : xs 2 = x2) (hx3 : xs 3 = x3) (hx4 : xs 4 = x4) (hx5 : xs 5 = x5) : mm_T (fr_X 6 xs) 40 0 592 [.ref mm_ext, .ref 0, .ref 77, .ref 125, .int 0, .null, .null] [] fr_M op_Q := by
  have z0 : (0 : Int32).toInt = 0 := rfl
  have fC_fr_M := fC_fr_M HM
  have fI_fr_M_0_12 := fI_fr_M_0_12 HM
  have fI_fr_M_77_28 := fI_fr_M_77_28 HM
  have fI_fr_M_77_29 := fI_fr_M_77_29 HM
  have fO_fr_M_0_10 := fO_fr_M_0_10 HM
  have fO_fr_M_77_11 := fO_fr_M_77_11 HM
  refine to_an (pc := 592) rw_0_592 rfl ?_
  refine to_an (pc := 593) rw_0_593 rfl ?_
  refine to_i (pc := 594) rw_0_594 rfl ?_
  refine to_c (pc := 596) rw_0_596 (x := (1 : Int32)) rfl rfl ?_
  refine to_2 (pc := 597) rw_0_597 (v := (1 : Int32)) (by decide +kernel) ?_
  refine op_x (pc := 598) rw_0_598 (k := 1) (by decide +kernel) hx1 ?_
  refine to_an (pc := 599) rw_0_599 rfl ?_
  refine to_i (pc := 600) rw_0_600 rfl ?_
  refine to_c (pc := 602) rw_0_602 (x := (2 : Int32)) rfl rfl ?_
  refine to_2 (pc := 603) rw_0_603 (v := (2 : Int32)) (by decide +kernel) ?_
  refine op_x (pc := 604) rw_0_604 (k := 2) (by decide +kernel) hx2 ?_
  refine to_v (pc := 605) rw_0_605 (hi := rfl) (ls0 := [.ref 0, .int _, .int _]) rfl (Nat.le_of_ble_eq_true rfl) (Nat.le_of_ble_eq_true rfl) rfl (to_rc rfl rfl rfl fO_fr_M_0_10) rfl ?_
  refine to_an (pc := 0) rw_120_0 rfl ?_
  refine to_in (pc := 1) rw_120_1 rfl ?_
  refine to_v (pc := 2) rw_120_2 (hi := rfl) (ls0 := [.ref 0, .int _]) rfl (Nat.le_of_ble_eq_true rfl) (Nat.le_of_ble_eq_true rfl) rfl (to_rc rfl rfl rfl fO_fr_M_0_10) rfl ?_
  refine to_in (pc := 0) rw_140_0 rfl ?_
  rcases Int.lt_or_le x1.toInt (0) with h1 | h1
  · refine to_ift (pc := 1) rw_140_1 (cd_of (c := .lt) (show x1.toInt < (0 : Int32).toInt from (by have e1 : (0 : Int32).toInt = 0 := rfl; omega))) ?_
    refine to_c (pc := 16) rw_140_16 (x := (0 : Int32)) rfl rfl ?_
    refine to_r1 (pc := 17) rw_140_17 (by decide +kernel) ?_
    refine to_ift (pc := 5) rw_120_5 (by decide +kernel) ?_
    refine to_c (pc := 19) rw_120_19 (x := (-1 : Int32)) rfl rfl ?_
    refine to_r0 (pc := 20) rw_120_20 ?_
    refine to_an (pc := 608) rw_0_608 rfl ?_
    refine to_an (pc := 609) rw_0_609 rfl ?_
    refine to_i (pc := 610) rw_0_610 rfl ?_
    refine to_c (pc := 612) rw_0_612 (x := (1 : Int32)) rfl rfl ?_
    refine to_2 (pc := 613) rw_0_613 (v := (1 : Int32)) (by decide +kernel) ?_
    refine op_x (pc := 614) rw_0_614 (k := 1) (by decide +kernel) hx1 ?_
    refine to_an (pc := 615) rw_0_615 rfl ?_
    refine to_i (pc := 616) rw_0_616 rfl ?_
    refine to_c (pc := 618) rw_0_618 (x := (2 : Int32)) rfl rfl ?_
    refine to_2 (pc := 619) rw_0_619 (v := (2 : Int32)) (by decide +kernel) ?_
    refine op_x (pc := 620) rw_0_620 (k := 2) (by decide +kernel) hx2 ?_
    refine to_v (pc := 621) rw_0_621 (hi := rfl) (ls0 := [.ref 77, .int _, .int _]) rfl (Nat.le_of_ble_eq_true rfl) (Nat.le_of_ble_eq_true rfl) rfl (to_rc rfl rfl rfl fO_fr_M_77_11) rfl ?_
    refine to_an (pc := 0) rw_195_0 rfl ?_
    refine to_c (pc := 1) rw_195_1 (x := (0 : Int32)) rfl rfl ?_
    refine tt_pI (pc := 2) rw_195_2 fO_fr_M_77_11 ?_
    refine to_an (pc := 5) rw_195_5 rfl ?_
    refine tt_gI (pc := 6) rw_195_6 fO_fr_M_77_11 (rI_n rfl fI_fr_M_77_29) ?_
    refine to_c (pc := 9) rw_195_9 (x := (150 : Int32)) rfl rfl ?_
    refine to_icf (pc := 12) rw_195_12 (by decide +kernel) ?_
    refine to_an (pc := 15) rw_195_15 rfl ?_
    refine to_in (pc := 16) rw_195_16 rfl ?_
    refine to_v (pc := 17) rw_195_17 (hi := rfl) (ls0 := [.ref 77, .int _]) rfl (Nat.le_of_ble_eq_true rfl) (Nat.le_of_ble_eq_true rfl) rfl (to_rc rfl rfl rfl fO_fr_M_77_11) rfl ?_
    refine to_in (pc := 0) rw_187_0 rfl ?_
    refine to_ift (pc := 1) rw_187_1 (cd_of (c := .lt) (show x1.toInt < (0 : Int32).toInt from (by have e1 : (0 : Int32).toInt = 0 := rfl; omega))) ?_
    refine to_c (pc := 16) rw_187_16 (x := (0 : Int32)) rfl rfl ?_
    refine to_r1 (pc := 17) rw_187_17 (by decide +kernel) ?_
    refine to_ift (pc := 20) rw_195_20 (by decide +kernel) ?_
    refine to_c (pc := 31) rw_195_31 (x := (-1 : Int32)) rfl rfl ?_
    refine to_go (pc := 32) rw_195_32 ?_
    refine to_r0 (pc := 43) rw_195_43 ?_
    refine to_ict (pc := 624) rw_0_624 (by decide +kernel) ?_
    exact op_tail (op_c fC_fr_M)
  · refine to_iff (pc := 1) rw_140_1 (cd_no (c := .lt) (show ¬ x1.toInt < (0 : Int32).toInt from (by have e1 : (0 : Int32).toInt = 0 := rfl; omega))) ?_
    refine to_in (pc := 4) rw_140_4 rfl ?_
    refine to_an (pc := 5) rw_140_5 rfl ?_
    refine tt_gI (pc := 6) rw_140_6 fO_fr_M_0_10 fI_fr_M_0_12 ?_
    refine to_ict (pc := 9) rw_140_9 (cd_of (c := .ge) (show x1.toInt ≥ (0 : Int32).toInt from (by have e1 : (0 : Int32).toInt = 0 := rfl; omega))) ?_
    refine to_c (pc := 16) rw_140_16 (x := (0 : Int32)) rfl rfl ?_
    refine to_r1 (pc := 17) rw_140_17 (by decide +kernel) ?_
    refine to_ift (pc := 5) rw_120_5 (by decide +kernel) ?_
    refine to_c (pc := 19) rw_120_19 (x := (-1 : Int32)) rfl rfl ?_
    refine to_r0 (pc := 20) rw_120_20 ?_
    refine to_an (pc := 608) rw_0_608 rfl ?_
    refine to_an (pc := 609) rw_0_609 rfl ?_
    refine to_i (pc := 610) rw_0_610 rfl ?_
    refine to_c (pc := 612) rw_0_612 (x := (1 : Int32)) rfl rfl ?_
    refine to_2 (pc := 613) rw_0_613 (v := (1 : Int32)) (by decide +kernel) ?_
    refine op_x (pc := 614) rw_0_614 (k := 1) (by decide +kernel) hx1 ?_
    refine to_an (pc := 615) rw_0_615 rfl ?_
    refine to_i (pc := 616) rw_0_616 rfl ?_
    refine to_c (pc := 618) rw_0_618 (x := (2 : Int32)) rfl rfl ?_
    refine to_2 (pc := 619) rw_0_619 (v := (2 : Int32)) (by decide +kernel) ?_
    refine op_x (pc := 620) rw_0_620 (k := 2) (by decide +kernel) hx2 ?_
    refine to_v (pc := 621) rw_0_621 (hi := rfl) (ls0 := [.ref 77, .int _, .int _]) rfl (Nat.le_of_ble_eq_true rfl) (Nat.le_of_ble_eq_true rfl) rfl (to_rc rfl rfl rfl fO_fr_M_77_11) rfl ?_
    refine to_an (pc := 0) rw_195_0 rfl ?_
    refine to_c (pc := 1) rw_195_1 (x := (0 : Int32)) rfl rfl ?_
    refine tt_pI (pc := 2) rw_195_2 fO_fr_M_77_11 ?_
    refine to_an (pc := 5) rw_195_5 rfl ?_
    refine tt_gI (pc := 6) rw_195_6 fO_fr_M_77_11 (rI_n rfl fI_fr_M_77_29) ?_
    refine to_c (pc := 9) rw_195_9 (x := (150 : Int32)) rfl rfl ?_
    refine to_icf (pc := 12) rw_195_12 (by decide +kernel) ?_
    refine to_an (pc := 15) rw_195_15 rfl ?_
    refine to_in (pc := 16) rw_195_16 rfl ?_
    refine to_v (pc := 17) rw_195_17 (hi := rfl) (ls0 := [.ref 77, .int _]) rfl (Nat.le_of_ble_eq_true rfl) (Nat.le_of_ble_eq_true rfl) rfl (to_rc rfl rfl rfl fO_fr_M_77_11) rfl ?_
    refine to_in (pc := 0) rw_187_0 rfl ?_
    refine to_iff (pc := 1) rw_187_1 (cd_no (c := .lt) (show ¬ x1.toInt < (0 : Int32).toInt from (by have e1 : (0 : Int32).toInt = 0 := rfl; omega))) ?_
    refine to_in (pc := 4) rw_187_4 rfl ?_
    refine to_an (pc := 5) rw_187_5 rfl ?_
    refine tt_gI (pc := 6) rw_187_6 fO_fr_M_77_11 (rI_n rfl fI_fr_M_77_28) ?_
    refine to_ict (pc := 9) rw_187_9 (cd_of (c := .ge) (show x1.toInt ≥ (0 : Int32).toInt from (by have e1 : (0 : Int32).toInt = 0 := rfl; omega))) ?_
    refine to_c (pc := 16) rw_187_16 (x := (0 : Int32)) rfl rfl ?_
    refine to_r1 (pc := 17) rw_187_17 (by decide +kernel) ?_
    refine to_ift (pc := 20) rw_195_20 (by decide +kernel) ?_
    refine to_c (pc := 31) rw_195_31 (x := (-1 : Int32)) rfl rfl ?_
    refine to_go (pc := 32) rw_195_32 ?_
    refine to_r0 (pc := 43) rw_195_43 ?_
    refine to_ict (pc := 624) rw_0_624 (by decide +kernel) ?_
    exact op_tail (op_c fC_fr_M)
set_option maxHeartbeats 0 in
set_option maxRecDepth 4000 in
theorem op_12 {fr_M fr_1 fr_2 fr_3 fr_4 fr_5 fr_6 fr_7 fr_8 fr_9 fr_10 fr_11 fr_12 : mm_M} (HM : fr_Eq fr_M fr_1 fr_2 fr_3 fr_4 fr_5 fr_6 fr_7 fr_8 fr_9 fr_10 fr_11 fr_12) {xs : Nat → Int32} {x1 x2 x3 x4 x5 : Int32} (hx1 : xs 1 = x1) (hx2 : xs 2 = x2) (hx3 : xs 3 = x3) (hx4 : xs 4 = x4) (hx5 : xs 5 = x5) : mm_T (fr_X 6 xs) 40 0 629 [.ref mm_ext, .ref 0, .ref 77, .ref 125, .int 0, .null, .null] [] fr_M op_Q := by
  have z0 : (0 : Int32).toInt = 0 := rfl
  have fC_fr_M := fC_fr_M HM
  have fI_fr_M_0_12 := fI_fr_M_0_12 HM
  have fI_fr_M_77_28 := fI_fr_M_77_28 HM
  have fI_fr_M_77_29 := fI_fr_M_77_29 HM
  have fO_fr_M_0_10 := fO_fr_M_0_10 HM
  have fO_fr_M_77_11 := fO_fr_M_77_11 HM
  refine to_an (pc := 629) rw_0_629 rfl ?_
  refine to_an (pc := 630) rw_0_630 rfl ?_
  refine to_i (pc := 631) rw_0_631 rfl ?_
  refine to_c (pc := 633) rw_0_633 (x := (1 : Int32)) rfl rfl ?_
  refine to_2 (pc := 634) rw_0_634 (v := (1 : Int32)) (by decide +kernel) ?_
  refine op_x (pc := 635) rw_0_635 (k := 1) (by decide +kernel) hx1 ?_
  refine to_an (pc := 636) rw_0_636 rfl ?_
  refine to_i (pc := 637) rw_0_637 rfl ?_
  refine to_c (pc := 639) rw_0_639 (x := (2 : Int32)) rfl rfl ?_
  refine to_2 (pc := 640) rw_0_640 (v := (2 : Int32)) (by decide +kernel) ?_
  refine op_x (pc := 641) rw_0_641 (k := 2) (by decide +kernel) hx2 ?_
  refine to_an (pc := 642) rw_0_642 rfl ?_
  refine to_i (pc := 643) rw_0_643 rfl ?_
  refine to_c (pc := 645) rw_0_645 (x := (3 : Int32)) rfl rfl ?_
  refine to_2 (pc := 646) rw_0_646 (v := (3 : Int32)) (by decide +kernel) ?_
  refine op_x (pc := 647) rw_0_647 (k := 3) (by decide +kernel) hx3 ?_
  by_cases h1 : x3 = (0 : Int32)
  · subst h1
    refine to_ift (pc := 648) rw_0_648 (by decide +kernel) ?_
    refine to_c (pc := 655) rw_0_655 (x := (0 : Int32)) rfl rfl ?_
    refine to_v (pc := 656) rw_0_656 (hi := rfl) (ls0 := [.ref 0, .int _, .int _, .int (0 : Int32)]) rfl (Nat.le_of_ble_eq_true rfl) (Nat.le_of_ble_eq_true rfl) rfl (to_rc rfl rfl rfl fO_fr_M_0_10) rfl ?_
    refine to_an (pc := 0) rw_121_0 rfl ?_
    refine to_in (pc := 1) rw_121_1 rfl ?_
    refine to_v (pc := 2) rw_121_2 (hi := rfl) (ls0 := [.ref 0, .int _]) rfl (Nat.le_of_ble_eq_true rfl) (Nat.le_of_ble_eq_true rfl) rfl (to_rc rfl rfl rfl fO_fr_M_0_10) rfl ?_
    refine to_in (pc := 0) rw_140_0 rfl ?_
    rcases Int.lt_or_le x1.toInt (0) with h2 | h2
    · refine to_ift (pc := 1) rw_140_1 (cd_of (c := .lt) (show x1.toInt < (0 : Int32).toInt from (by have e1 : (0 : Int32).toInt = 0 := rfl; omega))) ?_
      refine to_c (pc := 16) rw_140_16 (x := (0 : Int32)) rfl rfl ?_
      refine to_r1 (pc := 17) rw_140_17 (by decide +kernel) ?_
      refine to_ift (pc := 5) rw_121_5 (by decide +kernel) ?_
      refine to_c (pc := 23) rw_121_23 (x := (-1 : Int32)) rfl rfl ?_
      refine to_r0 (pc := 24) rw_121_24 ?_
      refine to_an (pc := 659) rw_0_659 rfl ?_
      refine to_an (pc := 660) rw_0_660 rfl ?_
      refine to_i (pc := 661) rw_0_661 rfl ?_
      refine to_c (pc := 663) rw_0_663 (x := (1 : Int32)) rfl rfl ?_
      refine to_2 (pc := 664) rw_0_664 (v := (1 : Int32)) (by decide +kernel) ?_
      refine op_x (pc := 665) rw_0_665 (k := 1) (by decide +kernel) hx1 ?_
      refine to_an (pc := 666) rw_0_666 rfl ?_
      refine to_i (pc := 667) rw_0_667 rfl ?_
      refine to_c (pc := 669) rw_0_669 (x := (2 : Int32)) rfl rfl ?_
      refine to_2 (pc := 670) rw_0_670 (v := (2 : Int32)) (by decide +kernel) ?_
      refine op_x (pc := 671) rw_0_671 (k := 2) (by decide +kernel) hx2 ?_
      refine to_an (pc := 672) rw_0_672 rfl ?_
      refine to_i (pc := 673) rw_0_673 rfl ?_
      refine to_c (pc := 675) rw_0_675 (x := (3 : Int32)) rfl rfl ?_
      refine to_2 (pc := 676) rw_0_676 (v := (3 : Int32)) (by decide +kernel) ?_
      refine op_x (pc := 677) rw_0_677 (k := 3) (by decide +kernel) hx3 ?_
      refine to_ift (pc := 678) rw_0_678 (by decide +kernel) ?_
      refine to_c (pc := 685) rw_0_685 (x := (0 : Int32)) rfl rfl ?_
      refine to_v (pc := 686) rw_0_686 (hi := rfl) (ls0 := [.ref 77, .int _, .int _, .int (0 : Int32)]) rfl (Nat.le_of_ble_eq_true rfl) (Nat.le_of_ble_eq_true rfl) rfl (to_rc rfl rfl rfl fO_fr_M_77_11) rfl ?_
      refine to_an (pc := 0) rw_196_0 rfl ?_
      refine to_c (pc := 1) rw_196_1 (x := (0 : Int32)) rfl rfl ?_
      refine tt_pI (pc := 2) rw_196_2 fO_fr_M_77_11 ?_
      refine to_an (pc := 5) rw_196_5 rfl ?_
      refine tt_gI (pc := 6) rw_196_6 fO_fr_M_77_11 (rI_n rfl fI_fr_M_77_29) ?_
      refine to_c (pc := 9) rw_196_9 (x := (150 : Int32)) rfl rfl ?_
      refine to_icf (pc := 12) rw_196_12 (by decide +kernel) ?_
      refine to_an (pc := 15) rw_196_15 rfl ?_
      refine to_in (pc := 16) rw_196_16 rfl ?_
      refine to_v (pc := 17) rw_196_17 (hi := rfl) (ls0 := [.ref 77, .int _]) rfl (Nat.le_of_ble_eq_true rfl) (Nat.le_of_ble_eq_true rfl) rfl (to_rc rfl rfl rfl fO_fr_M_77_11) rfl ?_
      refine to_in (pc := 0) rw_187_0 rfl ?_
      refine to_ift (pc := 1) rw_187_1 (cd_of (c := .lt) (show x1.toInt < (0 : Int32).toInt from (by have e1 : (0 : Int32).toInt = 0 := rfl; omega))) ?_
      refine to_c (pc := 16) rw_187_16 (x := (0 : Int32)) rfl rfl ?_
      refine to_r1 (pc := 17) rw_187_17 (by decide +kernel) ?_
      refine to_ift (pc := 20) rw_196_20 (by decide +kernel) ?_
      refine to_c (pc := 35) rw_196_35 (x := (-1 : Int32)) rfl rfl ?_
      refine to_go (pc := 36) rw_196_36 ?_
      refine to_r0 (pc := 55) rw_196_55 ?_
      refine to_ict (pc := 689) rw_0_689 (by decide +kernel) ?_
      exact op_tail (op_c fC_fr_M)
    · refine to_iff (pc := 1) rw_140_1 (cd_no (c := .lt) (show ¬ x1.toInt < (0 : Int32).toInt from (by have e1 : (0 : Int32).toInt = 0 := rfl; omega))) ?_
      refine to_in (pc := 4) rw_140_4 rfl ?_
      refine to_an (pc := 5) rw_140_5 rfl ?_
      refine tt_gI (pc := 6) rw_140_6 fO_fr_M_0_10 fI_fr_M_0_12 ?_
      refine to_ict (pc := 9) rw_140_9 (cd_of (c := .ge) (show x1.toInt ≥ (0 : Int32).toInt from (by have e1 : (0 : Int32).toInt = 0 := rfl; omega))) ?_
      refine to_c (pc := 16) rw_140_16 (x := (0 : Int32)) rfl rfl ?_
      refine to_r1 (pc := 17) rw_140_17 (by decide +kernel) ?_
      refine to_ift (pc := 5) rw_121_5 (by decide +kernel) ?_
      refine to_c (pc := 23) rw_121_23 (x := (-1 : Int32)) rfl rfl ?_
      refine to_r0 (pc := 24) rw_121_24 ?_
      refine to_an (pc := 659) rw_0_659 rfl ?_
      refine to_an (pc := 660) rw_0_660 rfl ?_
      refine to_i (pc := 661) rw_0_661 rfl ?_
      refine to_c (pc := 663) rw_0_663 (x := (1 : Int32)) rfl rfl ?_
      refine to_2 (pc := 664) rw_0_664 (v := (1 : Int32)) (by decide +kernel) ?_
      refine op_x (pc := 665) rw_0_665 (k := 1) (by decide +kernel) hx1 ?_
      refine to_an (pc := 666) rw_0_666 rfl ?_
      refine to_i (pc := 667) rw_0_667 rfl ?_
      refine to_c (pc := 669) rw_0_669 (x := (2 : Int32)) rfl rfl ?_
      refine to_2 (pc := 670) rw_0_670 (v := (2 : Int32)) (by decide +kernel) ?_
      refine op_x (pc := 671) rw_0_671 (k := 2) (by decide +kernel) hx2 ?_
      refine to_an (pc := 672) rw_0_672 rfl ?_
      refine to_i (pc := 673) rw_0_673 rfl ?_
      refine to_c (pc := 675) rw_0_675 (x := (3 : Int32)) rfl rfl ?_
      refine to_2 (pc := 676) rw_0_676 (v := (3 : Int32)) (by decide +kernel) ?_
      refine op_x (pc := 677) rw_0_677 (k := 3) (by decide +kernel) hx3 ?_
      refine to_ift (pc := 678) rw_0_678 (by decide +kernel) ?_
      refine to_c (pc := 685) rw_0_685 (x := (0 : Int32)) rfl rfl ?_
      refine to_v (pc := 686) rw_0_686 (hi := rfl) (ls0 := [.ref 77, .int _, .int _, .int (0 : Int32)]) rfl (Nat.le_of_ble_eq_true rfl) (Nat.le_of_ble_eq_true rfl) rfl (to_rc rfl rfl rfl fO_fr_M_77_11) rfl ?_
      refine to_an (pc := 0) rw_196_0 rfl ?_
      refine to_c (pc := 1) rw_196_1 (x := (0 : Int32)) rfl rfl ?_
      refine tt_pI (pc := 2) rw_196_2 fO_fr_M_77_11 ?_
      refine to_an (pc := 5) rw_196_5 rfl ?_
      refine tt_gI (pc := 6) rw_196_6 fO_fr_M_77_11 (rI_n rfl fI_fr_M_77_29) ?_
      refine to_c (pc := 9) rw_196_9 (x := (150 : Int32)) rfl rfl ?_
      refine to_icf (pc := 12) rw_196_12 (by decide +kernel) ?_
      refine to_an (pc := 15) rw_196_15 rfl ?_
      refine to_in (pc := 16) rw_196_16 rfl ?_
      refine to_v (pc := 17) rw_196_17 (hi := rfl) (ls0 := [.ref 77, .int _]) rfl (Nat.le_of_ble_eq_true rfl) (Nat.le_of_ble_eq_true rfl) rfl (to_rc rfl rfl rfl fO_fr_M_77_11) rfl ?_
      refine to_in (pc := 0) rw_187_0 rfl ?_
      refine to_iff (pc := 1) rw_187_1 (cd_no (c := .lt) (show ¬ x1.toInt < (0 : Int32).toInt from (by have e1 : (0 : Int32).toInt = 0 := rfl; omega))) ?_
      refine to_in (pc := 4) rw_187_4 rfl ?_
      refine to_an (pc := 5) rw_187_5 rfl ?_
      refine tt_gI (pc := 6) rw_187_6 fO_fr_M_77_11 (rI_n rfl fI_fr_M_77_28) ?_
      refine to_ict (pc := 9) rw_187_9 (cd_of (c := .ge) (show x1.toInt ≥ (0 : Int32).toInt from (by have e1 : (0 : Int32).toInt = 0 := rfl; omega))) ?_
      refine to_c (pc := 16) rw_187_16 (x := (0 : Int32)) rfl rfl ?_
      refine to_r1 (pc := 17) rw_187_17 (by decide +kernel) ?_
      refine to_ift (pc := 20) rw_196_20 (by decide +kernel) ?_
      refine to_c (pc := 35) rw_196_35 (x := (-1 : Int32)) rfl rfl ?_
      refine to_go (pc := 36) rw_196_36 ?_
      refine to_r0 (pc := 55) rw_196_55 ?_
      refine to_ict (pc := 689) rw_0_689 (by decide +kernel) ?_
      exact op_tail (op_c fC_fr_M)
  · have h1 := cd_ne h1
    refine to_iff (pc := 648) rw_0_648 (cd_no (c := .eq) (show ¬ x3.toInt = (0 : Int32).toInt from (by have e1 : (0 : Int32).toInt = 0 := rfl; omega))) ?_
    refine to_c (pc := 651) rw_0_651 (x := (1 : Int32)) rfl rfl ?_
    refine to_go (pc := 652) rw_0_652 ?_
    refine to_v (pc := 656) rw_0_656 (hi := rfl) (ls0 := [.ref 0, .int _, .int _, .int (1 : Int32)]) rfl (Nat.le_of_ble_eq_true rfl) (Nat.le_of_ble_eq_true rfl) rfl (to_rc rfl rfl rfl fO_fr_M_0_10) rfl ?_
    refine to_an (pc := 0) rw_121_0 rfl ?_
    refine to_in (pc := 1) rw_121_1 rfl ?_
    refine to_v (pc := 2) rw_121_2 (hi := rfl) (ls0 := [.ref 0, .int _]) rfl (Nat.le_of_ble_eq_true rfl) (Nat.le_of_ble_eq_true rfl) rfl (to_rc rfl rfl rfl fO_fr_M_0_10) rfl ?_
    refine to_in (pc := 0) rw_140_0 rfl ?_
    rcases Int.lt_or_le x1.toInt (0) with h3 | h3
    · refine to_ift (pc := 1) rw_140_1 (cd_of (c := .lt) (show x1.toInt < (0 : Int32).toInt from (by have e1 : (0 : Int32).toInt = 0 := rfl; omega))) ?_
      refine to_c (pc := 16) rw_140_16 (x := (0 : Int32)) rfl rfl ?_
      refine to_r1 (pc := 17) rw_140_17 (by decide +kernel) ?_
      refine to_ift (pc := 5) rw_121_5 (by decide +kernel) ?_
      refine to_c (pc := 23) rw_121_23 (x := (-1 : Int32)) rfl rfl ?_
      refine to_r0 (pc := 24) rw_121_24 ?_
      refine to_an (pc := 659) rw_0_659 rfl ?_
      refine to_an (pc := 660) rw_0_660 rfl ?_
      refine to_i (pc := 661) rw_0_661 rfl ?_
      refine to_c (pc := 663) rw_0_663 (x := (1 : Int32)) rfl rfl ?_
      refine to_2 (pc := 664) rw_0_664 (v := (1 : Int32)) (by decide +kernel) ?_
      refine op_x (pc := 665) rw_0_665 (k := 1) (by decide +kernel) hx1 ?_
      refine to_an (pc := 666) rw_0_666 rfl ?_
      refine to_i (pc := 667) rw_0_667 rfl ?_
      refine to_c (pc := 669) rw_0_669 (x := (2 : Int32)) rfl rfl ?_
      refine to_2 (pc := 670) rw_0_670 (v := (2 : Int32)) (by decide +kernel) ?_
      refine op_x (pc := 671) rw_0_671 (k := 2) (by decide +kernel) hx2 ?_
      refine to_an (pc := 672) rw_0_672 rfl ?_
      refine to_i (pc := 673) rw_0_673 rfl ?_
      refine to_c (pc := 675) rw_0_675 (x := (3 : Int32)) rfl rfl ?_
      refine to_2 (pc := 676) rw_0_676 (v := (3 : Int32)) (by decide +kernel) ?_
      refine op_x (pc := 677) rw_0_677 (k := 3) (by decide +kernel) hx3 ?_
      refine to_iff (pc := 678) rw_0_678 (cd_no (c := .eq) (show ¬ x3.toInt = (0 : Int32).toInt from (by have e1 : (0 : Int32).toInt = 0 := rfl; omega))) ?_
      refine to_c (pc := 681) rw_0_681 (x := (1 : Int32)) rfl rfl ?_
      refine to_go (pc := 682) rw_0_682 ?_
      refine to_v (pc := 686) rw_0_686 (hi := rfl) (ls0 := [.ref 77, .int _, .int _, .int (1 : Int32)]) rfl (Nat.le_of_ble_eq_true rfl) (Nat.le_of_ble_eq_true rfl) rfl (to_rc rfl rfl rfl fO_fr_M_77_11) rfl ?_
      refine to_an (pc := 0) rw_196_0 rfl ?_
      refine to_c (pc := 1) rw_196_1 (x := (0 : Int32)) rfl rfl ?_
      refine tt_pI (pc := 2) rw_196_2 fO_fr_M_77_11 ?_
      refine to_an (pc := 5) rw_196_5 rfl ?_
      refine tt_gI (pc := 6) rw_196_6 fO_fr_M_77_11 (rI_n rfl fI_fr_M_77_29) ?_
      refine to_c (pc := 9) rw_196_9 (x := (150 : Int32)) rfl rfl ?_
      refine to_icf (pc := 12) rw_196_12 (by decide +kernel) ?_
      refine to_an (pc := 15) rw_196_15 rfl ?_
      refine to_in (pc := 16) rw_196_16 rfl ?_
      refine to_v (pc := 17) rw_196_17 (hi := rfl) (ls0 := [.ref 77, .int _]) rfl (Nat.le_of_ble_eq_true rfl) (Nat.le_of_ble_eq_true rfl) rfl (to_rc rfl rfl rfl fO_fr_M_77_11) rfl ?_
      refine to_in (pc := 0) rw_187_0 rfl ?_
      refine to_ift (pc := 1) rw_187_1 (cd_of (c := .lt) (show x1.toInt < (0 : Int32).toInt from (by have e1 : (0 : Int32).toInt = 0 := rfl; omega))) ?_
      refine to_c (pc := 16) rw_187_16 (x := (0 : Int32)) rfl rfl ?_
      refine to_r1 (pc := 17) rw_187_17 (by decide +kernel) ?_
      refine to_ift (pc := 20) rw_196_20 (by decide +kernel) ?_
      refine to_c (pc := 35) rw_196_35 (x := (-1 : Int32)) rfl rfl ?_
      refine to_go (pc := 36) rw_196_36 ?_
      refine to_r0 (pc := 55) rw_196_55 ?_
      refine to_ict (pc := 689) rw_0_689 (by decide +kernel) ?_
      exact op_tail (op_c fC_fr_M)
    · refine to_iff (pc := 1) rw_140_1 (cd_no (c := .lt) (show ¬ x1.toInt < (0 : Int32).toInt from (by have e1 : (0 : Int32).toInt = 0 := rfl; omega))) ?_
      refine to_in (pc := 4) rw_140_4 rfl ?_
      refine to_an (pc := 5) rw_140_5 rfl ?_
      refine tt_gI (pc := 6) rw_140_6 fO_fr_M_0_10 fI_fr_M_0_12 ?_
      refine to_ict (pc := 9) rw_140_9 (cd_of (c := .ge) (show x1.toInt ≥ (0 : Int32).toInt from (by have e1 : (0 : Int32).toInt = 0 := rfl; omega))) ?_
      refine to_c (pc := 16) rw_140_16 (x := (0 : Int32)) rfl rfl ?_
      refine to_r1 (pc := 17) rw_140_17 (by decide +kernel) ?_
      refine to_ift (pc := 5) rw_121_5 (by decide +kernel) ?_
      refine to_c (pc := 23) rw_121_23 (x := (-1 : Int32)) rfl rfl ?_
      refine to_r0 (pc := 24) rw_121_24 ?_
      refine to_an (pc := 659) rw_0_659 rfl ?_
      refine to_an (pc := 660) rw_0_660 rfl ?_
      refine to_i (pc := 661) rw_0_661 rfl ?_
      refine to_c (pc := 663) rw_0_663 (x := (1 : Int32)) rfl rfl ?_
      refine to_2 (pc := 664) rw_0_664 (v := (1 : Int32)) (by decide +kernel) ?_
      refine op_x (pc := 665) rw_0_665 (k := 1) (by decide +kernel) hx1 ?_
      refine to_an (pc := 666) rw_0_666 rfl ?_
      refine to_i (pc := 667) rw_0_667 rfl ?_
      refine to_c (pc := 669) rw_0_669 (x := (2 : Int32)) rfl rfl ?_
      refine to_2 (pc := 670) rw_0_670 (v := (2 : Int32)) (by decide +kernel) ?_
      refine op_x (pc := 671) rw_0_671 (k := 2) (by decide +kernel) hx2 ?_
      refine to_an (pc := 672) rw_0_672 rfl ?_
      refine to_i (pc := 673) rw_0_673 rfl ?_
      refine to_c (pc := 675) rw_0_675 (x := (3 : Int32)) rfl rfl ?_
      refine to_2 (pc := 676) rw_0_676 (v := (3 : Int32)) (by decide +kernel) ?_
      refine op_x (pc := 677) rw_0_677 (k := 3) (by decide +kernel) hx3 ?_
      refine to_iff (pc := 678) rw_0_678 (cd_no (c := .eq) (show ¬ x3.toInt = (0 : Int32).toInt from (by have e1 : (0 : Int32).toInt = 0 := rfl; omega))) ?_
      refine to_c (pc := 681) rw_0_681 (x := (1 : Int32)) rfl rfl ?_
      refine to_go (pc := 682) rw_0_682 ?_
      refine to_v (pc := 686) rw_0_686 (hi := rfl) (ls0 := [.ref 77, .int _, .int _, .int (1 : Int32)]) rfl (Nat.le_of_ble_eq_true rfl) (Nat.le_of_ble_eq_true rfl) rfl (to_rc rfl rfl rfl fO_fr_M_77_11) rfl ?_
      refine to_an (pc := 0) rw_196_0 rfl ?_
      refine to_c (pc := 1) rw_196_1 (x := (0 : Int32)) rfl rfl ?_
      refine tt_pI (pc := 2) rw_196_2 fO_fr_M_77_11 ?_
      refine to_an (pc := 5) rw_196_5 rfl ?_
      refine tt_gI (pc := 6) rw_196_6 fO_fr_M_77_11 (rI_n rfl fI_fr_M_77_29) ?_
      refine to_c (pc := 9) rw_196_9 (x := (150 : Int32)) rfl rfl ?_
      refine to_icf (pc := 12) rw_196_12 (by decide +kernel) ?_
      refine to_an (pc := 15) rw_196_15 rfl ?_
      refine to_in (pc := 16) rw_196_16 rfl ?_
      refine to_v (pc := 17) rw_196_17 (hi := rfl) (ls0 := [.ref 77, .int _]) rfl (Nat.le_of_ble_eq_true rfl) (Nat.le_of_ble_eq_true rfl) rfl (to_rc rfl rfl rfl fO_fr_M_77_11) rfl ?_
      refine to_in (pc := 0) rw_187_0 rfl ?_
      refine to_iff (pc := 1) rw_187_1 (cd_no (c := .lt) (show ¬ x1.toInt < (0 : Int32).toInt from (by have e1 : (0 : Int32).toInt = 0 := rfl; omega))) ?_
      refine to_in (pc := 4) rw_187_4 rfl ?_
      refine to_an (pc := 5) rw_187_5 rfl ?_
      refine tt_gI (pc := 6) rw_187_6 fO_fr_M_77_11 (rI_n rfl fI_fr_M_77_28) ?_
      refine to_ict (pc := 9) rw_187_9 (cd_of (c := .ge) (show x1.toInt ≥ (0 : Int32).toInt from (by have e1 : (0 : Int32).toInt = 0 := rfl; omega))) ?_
      refine to_c (pc := 16) rw_187_16 (x := (0 : Int32)) rfl rfl ?_
      refine to_r1 (pc := 17) rw_187_17 (by decide +kernel) ?_
      refine to_ift (pc := 20) rw_196_20 (by decide +kernel) ?_
      refine to_c (pc := 35) rw_196_35 (x := (-1 : Int32)) rfl rfl ?_
      refine to_go (pc := 36) rw_196_36 ?_
      refine to_r0 (pc := 55) rw_196_55 ?_
      refine to_ict (pc := 689) rw_0_689 (by decide +kernel) ?_
      exact op_tail (op_c fC_fr_M)
set_option maxHeartbeats 0 in
set_option maxRecDepth 4000 in
theorem op_13 {fr_M fr_1 fr_2 fr_3 fr_4 fr_5 fr_6 fr_7 fr_8 fr_9 fr_10 fr_11 fr_12 : mm_M} (HM : fr_Eq fr_M fr_1 fr_2 fr_3 fr_4 fr_5 fr_6 fr_7 fr_8 fr_9 fr_10 fr_11 fr_12) {xs : Nat → Int32} {x1 x2 x3 x4 x5 : Int32} (hx1 : xs 1 = x1) (hx2 : xs 2 = x2) (hx3 : xs 3 = x3) (hx4 : xs 4 = x4) (hx5 : xs 5 = x5) : mm_T (fr_X 6 xs) 40 0 694 [.ref mm_ext, .ref 0, .ref 77, .ref 125, .int 0, .null, .null] [] fr_M op_Q := by
  have z0 : (0 : Int32).toInt = 0 := rfl
  have fC_fr_M := fC_fr_M HM
  have fI_fr_M_49_3 := fI_fr_M_49_3 HM
  have fI_fr_M_77_13 := fI_fr_M_77_13 HM
  have fI_fr_M_77_29 := fI_fr_M_77_29 HM
  have fO_fr_M_0_10 := fO_fr_M_0_10 HM
  have fO_fr_M_49_5 := fO_fr_M_49_5 HM
  have fO_fr_M_77_11 := fO_fr_M_77_11 HM
  have fR_fr_M_0_8 := fR_fr_M_0_8 HM
  refine to_an (pc := 694) rw_0_694 rfl ?_
  refine to_an (pc := 695) rw_0_695 rfl ?_
  refine to_i (pc := 696) rw_0_696 rfl ?_
  refine to_c (pc := 698) rw_0_698 (x := (1 : Int32)) rfl rfl ?_
  refine to_2 (pc := 699) rw_0_699 (v := (1 : Int32)) (by decide +kernel) ?_
  refine op_x (pc := 700) rw_0_700 (k := 1) (by decide +kernel) hx1 ?_
  refine to_an (pc := 701) rw_0_701 rfl ?_
  refine to_i (pc := 702) rw_0_702 rfl ?_
  refine to_c (pc := 704) rw_0_704 (x := (2 : Int32)) rfl rfl ?_
  refine to_2 (pc := 705) rw_0_705 (v := (2 : Int32)) (by decide +kernel) ?_
  refine op_x (pc := 706) rw_0_706 (k := 2) (by decide +kernel) hx2 ?_
  refine to_v (pc := 707) rw_0_707 (hi := rfl) (ls0 := [.ref 0, .int _, .int _]) rfl (Nat.le_of_ble_eq_true rfl) (Nat.le_of_ble_eq_true rfl) rfl (to_rc rfl rfl rfl fO_fr_M_0_10) rfl ?_
  refine to_an (pc := 0) rw_122_0 rfl ?_
  refine tt_gR (pc := 1) rw_122_1 fO_fr_M_0_10 fR_fr_M_0_8 ?_
  refine to_in (pc := 4) rw_122_4 rfl ?_
  refine to_v (pc := 5) rw_122_5 (hi := rfl) (ls0 := [.ref 49, .int _]) rfl (Nat.le_of_ble_eq_true rfl) (Nat.le_of_ble_eq_true rfl) rfl (to_rc rfl rfl rfl fO_fr_M_49_5) rfl ?_
  refine to_in (pc := 0) rw_44_0 rfl ?_
  rcases Int.lt_or_le x1.toInt (0) with h1 | h1
  · refine to_ift (pc := 1) rw_44_1 (cd_of (c := .lt) (show x1.toInt < (0 : Int32).toInt from (by have e1 : (0 : Int32).toInt = 0 := rfl; omega))) ?_
    refine to_c (pc := 16) rw_44_16 (x := (0 : Int32)) rfl rfl ?_
    refine to_r1 (pc := 17) rw_44_17 (by decide +kernel) ?_
    refine to_ift (pc := 8) rw_122_8 (by decide +kernel) ?_
    refine to_c (pc := 23) rw_122_23 (x := (-1 : Int32)) rfl rfl ?_
    refine to_r0 (pc := 24) rw_122_24 ?_
    refine to_an (pc := 710) rw_0_710 rfl ?_
    refine to_an (pc := 711) rw_0_711 rfl ?_
    refine to_i (pc := 712) rw_0_712 rfl ?_
    refine to_c (pc := 714) rw_0_714 (x := (1 : Int32)) rfl rfl ?_
    refine to_2 (pc := 715) rw_0_715 (v := (1 : Int32)) (by decide +kernel) ?_
    refine op_x (pc := 716) rw_0_716 (k := 1) (by decide +kernel) hx1 ?_
    refine to_an (pc := 717) rw_0_717 rfl ?_
    refine to_i (pc := 718) rw_0_718 rfl ?_
    refine to_c (pc := 720) rw_0_720 (x := (2 : Int32)) rfl rfl ?_
    refine to_2 (pc := 721) rw_0_721 (v := (2 : Int32)) (by decide +kernel) ?_
    refine op_x (pc := 722) rw_0_722 (k := 2) (by decide +kernel) hx2 ?_
    refine to_v (pc := 723) rw_0_723 (hi := rfl) (ls0 := [.ref 77, .int _, .int _]) rfl (Nat.le_of_ble_eq_true rfl) (Nat.le_of_ble_eq_true rfl) rfl (to_rc rfl rfl rfl fO_fr_M_77_11) rfl ?_
    refine to_an (pc := 0) rw_198_0 rfl ?_
    refine to_c (pc := 1) rw_198_1 (x := (0 : Int32)) rfl rfl ?_
    refine tt_pI (pc := 2) rw_198_2 fO_fr_M_77_11 ?_
    refine to_an (pc := 5) rw_198_5 rfl ?_
    refine tt_gI (pc := 6) rw_198_6 fO_fr_M_77_11 (rI_n rfl fI_fr_M_77_29) ?_
    refine to_c (pc := 9) rw_198_9 (x := (150 : Int32)) rfl rfl ?_
    refine to_icf (pc := 12) rw_198_12 (by decide +kernel) ?_
    refine to_an (pc := 15) rw_198_15 rfl ?_
    refine to_in (pc := 16) rw_198_16 rfl ?_
    refine to_v (pc := 17) rw_198_17 (hi := rfl) (ls0 := [.ref 77, .int _]) rfl (Nat.le_of_ble_eq_true rfl) (Nat.le_of_ble_eq_true rfl) rfl (to_rc rfl rfl rfl fO_fr_M_77_11) rfl ?_
    refine to_in (pc := 0) rw_180_0 rfl ?_
    refine to_ift (pc := 1) rw_180_1 (cd_of (c := .lt) (show x1.toInt < (0 : Int32).toInt from (by have e1 : (0 : Int32).toInt = 0 := rfl; omega))) ?_
    refine to_c (pc := 16) rw_180_16 (x := (0 : Int32)) rfl rfl ?_
    refine to_r1 (pc := 17) rw_180_17 (by decide +kernel) ?_
    refine to_ift (pc := 20) rw_198_20 (by decide +kernel) ?_
    refine to_c (pc := 61) rw_198_61 (x := (-1 : Int32)) rfl rfl ?_
    refine to_r0 (pc := 62) rw_198_62 ?_
    refine to_ict (pc := 726) rw_0_726 (by decide +kernel) ?_
    exact op_tail (op_c fC_fr_M)
  · refine to_iff (pc := 1) rw_44_1 (cd_no (c := .lt) (show ¬ x1.toInt < (0 : Int32).toInt from (by have e1 : (0 : Int32).toInt = 0 := rfl; omega))) ?_
    refine to_in (pc := 4) rw_44_4 rfl ?_
    refine to_an (pc := 5) rw_44_5 rfl ?_
    refine tt_gI (pc := 6) rw_44_6 fO_fr_M_49_5 fI_fr_M_49_3 ?_
    refine to_ict (pc := 9) rw_44_9 (cd_of (c := .ge) (show x1.toInt ≥ (0 : Int32).toInt from (by have e1 : (0 : Int32).toInt = 0 := rfl; omega))) ?_
    refine to_c (pc := 16) rw_44_16 (x := (0 : Int32)) rfl rfl ?_
    refine to_r1 (pc := 17) rw_44_17 (by decide +kernel) ?_
    refine to_ift (pc := 8) rw_122_8 (by decide +kernel) ?_
    refine to_c (pc := 23) rw_122_23 (x := (-1 : Int32)) rfl rfl ?_
    refine to_r0 (pc := 24) rw_122_24 ?_
    refine to_an (pc := 710) rw_0_710 rfl ?_
    refine to_an (pc := 711) rw_0_711 rfl ?_
    refine to_i (pc := 712) rw_0_712 rfl ?_
    refine to_c (pc := 714) rw_0_714 (x := (1 : Int32)) rfl rfl ?_
    refine to_2 (pc := 715) rw_0_715 (v := (1 : Int32)) (by decide +kernel) ?_
    refine op_x (pc := 716) rw_0_716 (k := 1) (by decide +kernel) hx1 ?_
    refine to_an (pc := 717) rw_0_717 rfl ?_
    refine to_i (pc := 718) rw_0_718 rfl ?_
    refine to_c (pc := 720) rw_0_720 (x := (2 : Int32)) rfl rfl ?_
    refine to_2 (pc := 721) rw_0_721 (v := (2 : Int32)) (by decide +kernel) ?_
    refine op_x (pc := 722) rw_0_722 (k := 2) (by decide +kernel) hx2 ?_
    refine to_v (pc := 723) rw_0_723 (hi := rfl) (ls0 := [.ref 77, .int _, .int _]) rfl (Nat.le_of_ble_eq_true rfl) (Nat.le_of_ble_eq_true rfl) rfl (to_rc rfl rfl rfl fO_fr_M_77_11) rfl ?_
    refine to_an (pc := 0) rw_198_0 rfl ?_
    refine to_c (pc := 1) rw_198_1 (x := (0 : Int32)) rfl rfl ?_
    refine tt_pI (pc := 2) rw_198_2 fO_fr_M_77_11 ?_
    refine to_an (pc := 5) rw_198_5 rfl ?_
    refine tt_gI (pc := 6) rw_198_6 fO_fr_M_77_11 (rI_n rfl fI_fr_M_77_29) ?_
    refine to_c (pc := 9) rw_198_9 (x := (150 : Int32)) rfl rfl ?_
    refine to_icf (pc := 12) rw_198_12 (by decide +kernel) ?_
    refine to_an (pc := 15) rw_198_15 rfl ?_
    refine to_in (pc := 16) rw_198_16 rfl ?_
    refine to_v (pc := 17) rw_198_17 (hi := rfl) (ls0 := [.ref 77, .int _]) rfl (Nat.le_of_ble_eq_true rfl) (Nat.le_of_ble_eq_true rfl) rfl (to_rc rfl rfl rfl fO_fr_M_77_11) rfl ?_
    refine to_in (pc := 0) rw_180_0 rfl ?_
    refine to_iff (pc := 1) rw_180_1 (cd_no (c := .lt) (show ¬ x1.toInt < (0 : Int32).toInt from (by have e1 : (0 : Int32).toInt = 0 := rfl; omega))) ?_
    refine to_in (pc := 4) rw_180_4 rfl ?_
    refine to_an (pc := 5) rw_180_5 rfl ?_
    refine tt_gI (pc := 6) rw_180_6 fO_fr_M_77_11 (rI_n rfl fI_fr_M_77_13) ?_
    refine to_ict (pc := 9) rw_180_9 (cd_of (c := .ge) (show x1.toInt ≥ (0 : Int32).toInt from (by have e1 : (0 : Int32).toInt = 0 := rfl; omega))) ?_
    refine to_c (pc := 16) rw_180_16 (x := (0 : Int32)) rfl rfl ?_
    refine to_r1 (pc := 17) rw_180_17 (by decide +kernel) ?_
    refine to_ift (pc := 20) rw_198_20 (by decide +kernel) ?_
    refine to_c (pc := 61) rw_198_61 (x := (-1 : Int32)) rfl rfl ?_
    refine to_r0 (pc := 62) rw_198_62 ?_
    refine to_ict (pc := 726) rw_0_726 (by decide +kernel) ?_
    exact op_tail (op_c fC_fr_M)
set_option maxHeartbeats 0 in
set_option maxRecDepth 4000 in
theorem op_14 {fr_M fr_1 fr_2 fr_3 fr_4 fr_5 fr_6 fr_7 fr_8 fr_9 fr_10 fr_11 fr_12 : mm_M} (HM : fr_Eq fr_M fr_1 fr_2 fr_3 fr_4 fr_5 fr_6 fr_7 fr_8 fr_9 fr_10 fr_11 fr_12) {xs : Nat → Int32} {x1 x2 x3 x4 x5 : Int32} (hx1 : xs 1 = x1) (hx2 : xs 2 = x2) (hx3 : xs 3 = x3) (hx4 : xs 4 = x4) (hx5 : xs 5 = x5) : mm_T (fr_X 6 xs) 40 0 731 [.ref mm_ext, .ref 0, .ref 77, .ref 125, .int 0, .null, .null] [] fr_M op_Q := by
  have z0 : (0 : Int32).toInt = 0 := rfl
  have fC_fr_M := fC_fr_M HM
  have fI_fr_M_6_0 := fI_fr_M_6_0 HM
  have fI_fr_M_77_29 := fI_fr_M_77_29 HM
  have fO_fr_M_0_10 := fO_fr_M_0_10 HM
  have fO_fr_M_6_3 := fO_fr_M_6_3 HM
  have fO_fr_M_77_11 := fO_fr_M_77_11 HM
  have fR_fr_M_0_1 := fR_fr_M_0_1 HM
  refine to_an (pc := 731) rw_0_731 rfl ?_
  refine to_an (pc := 732) rw_0_732 rfl ?_
  refine to_i (pc := 733) rw_0_733 rfl ?_
  refine to_c (pc := 735) rw_0_735 (x := (1 : Int32)) rfl rfl ?_
  refine to_2 (pc := 736) rw_0_736 (v := (1 : Int32)) (by decide +kernel) ?_
  refine op_x (pc := 737) rw_0_737 (k := 1) (by decide +kernel) hx1 ?_
  refine to_v (pc := 738) rw_0_738 (hi := rfl) (ls0 := [.ref 0, .int _]) rfl (Nat.le_of_ble_eq_true rfl) (Nat.le_of_ble_eq_true rfl) rfl (to_rc rfl rfl rfl fO_fr_M_0_10) rfl ?_
  refine to_in (pc := 0) rw_123_0 rfl ?_
  rcases Int.lt_or_le x1.toInt (0) with h1 | h1
  · refine to_ift (pc := 1) rw_123_1 (cd_of (c := .lt) (show x1.toInt < (0 : Int32).toInt from (by have e1 : (0 : Int32).toInt = 0 := rfl; omega))) ?_
    refine to_c (pc := 15) rw_123_15 (x := (-1 : Int32)) rfl rfl ?_
    refine to_r0 (pc := 16) rw_123_16 ?_
    refine to_an (pc := 741) rw_0_741 rfl ?_
    refine to_an (pc := 742) rw_0_742 rfl ?_
    refine to_i (pc := 743) rw_0_743 rfl ?_
    refine to_c (pc := 745) rw_0_745 (x := (1 : Int32)) rfl rfl ?_
    refine to_2 (pc := 746) rw_0_746 (v := (1 : Int32)) (by decide +kernel) ?_
    refine op_x (pc := 747) rw_0_747 (k := 1) (by decide +kernel) hx1 ?_
    refine to_v (pc := 748) rw_0_748 (hi := rfl) (ls0 := [.ref 77, .int _]) rfl (Nat.le_of_ble_eq_true rfl) (Nat.le_of_ble_eq_true rfl) rfl (to_rc rfl rfl rfl fO_fr_M_77_11) rfl ?_
    refine to_an (pc := 0) rw_199_0 rfl ?_
    refine to_c (pc := 1) rw_199_1 (x := (0 : Int32)) rfl rfl ?_
    refine tt_pI (pc := 2) rw_199_2 fO_fr_M_77_11 ?_
    refine to_an (pc := 5) rw_199_5 rfl ?_
    refine tt_gI (pc := 6) rw_199_6 fO_fr_M_77_11 (rI_n rfl fI_fr_M_77_29) ?_
    refine to_c (pc := 9) rw_199_9 (x := (150 : Int32)) rfl rfl ?_
    refine to_icf (pc := 12) rw_199_12 (by decide +kernel) ?_
    refine to_in (pc := 15) rw_199_15 rfl ?_
    refine to_ift (pc := 16) rw_199_16 (cd_of (c := .lt) (show x1.toInt < (0 : Int32).toInt from (by have e1 : (0 : Int32).toInt = 0 := rfl; omega))) ?_
    refine to_c (pc := 27) rw_199_27 (x := (-1 : Int32)) rfl rfl ?_
    refine to_go (pc := 28) rw_199_28 ?_
    refine to_r0 (pc := 39) rw_199_39 ?_
    refine to_ict (pc := 751) rw_0_751 (by decide +kernel) ?_
    exact op_tail (op_c fC_fr_M)
  · refine to_iff (pc := 1) rw_123_1 (cd_no (c := .lt) (show ¬ x1.toInt < (0 : Int32).toInt from (by have e1 : (0 : Int32).toInt = 0 := rfl; omega))) ?_
    refine to_in (pc := 4) rw_123_4 rfl ?_
    refine to_an (pc := 5) rw_123_5 rfl ?_
    refine tt_gR (pc := 6) rw_123_6 fO_fr_M_0_10 fR_fr_M_0_1 ?_
    refine tt_gI (pc := 9) rw_123_9 fO_fr_M_6_3 fI_fr_M_6_0 ?_
    refine to_icf (pc := 12) rw_123_12 (cd_no (c := .lt) (show ¬ x1.toInt < (0 : Int32).toInt from (by have e1 : (0 : Int32).toInt = 0 := rfl; omega))) ?_
    refine to_c (pc := 15) rw_123_15 (x := (-1 : Int32)) rfl rfl ?_
    refine to_r0 (pc := 16) rw_123_16 ?_
    refine to_an (pc := 741) rw_0_741 rfl ?_
    refine to_an (pc := 742) rw_0_742 rfl ?_
    refine to_i (pc := 743) rw_0_743 rfl ?_
    refine to_c (pc := 745) rw_0_745 (x := (1 : Int32)) rfl rfl ?_
    refine to_2 (pc := 746) rw_0_746 (v := (1 : Int32)) (by decide +kernel) ?_
    refine op_x (pc := 747) rw_0_747 (k := 1) (by decide +kernel) hx1 ?_
    refine to_v (pc := 748) rw_0_748 (hi := rfl) (ls0 := [.ref 77, .int _]) rfl (Nat.le_of_ble_eq_true rfl) (Nat.le_of_ble_eq_true rfl) rfl (to_rc rfl rfl rfl fO_fr_M_77_11) rfl ?_
    refine to_an (pc := 0) rw_199_0 rfl ?_
    refine to_c (pc := 1) rw_199_1 (x := (0 : Int32)) rfl rfl ?_
    refine tt_pI (pc := 2) rw_199_2 fO_fr_M_77_11 ?_
    refine to_an (pc := 5) rw_199_5 rfl ?_
    refine tt_gI (pc := 6) rw_199_6 fO_fr_M_77_11 (rI_n rfl fI_fr_M_77_29) ?_
    refine to_c (pc := 9) rw_199_9 (x := (150 : Int32)) rfl rfl ?_
    refine to_icf (pc := 12) rw_199_12 (by decide +kernel) ?_
    refine to_in (pc := 15) rw_199_15 rfl ?_
    refine to_iff (pc := 16) rw_199_16 (cd_no (c := .lt) (show ¬ x1.toInt < (0 : Int32).toInt from (by have e1 : (0 : Int32).toInt = 0 := rfl; omega))) ?_
    refine to_in (pc := 19) rw_199_19 rfl ?_
    refine to_an (pc := 20) rw_199_20 rfl ?_
    refine tt_gI (pc := 21) rw_199_21 fO_fr_M_77_11 (rI_n rfl fI_fr_M_77_29) ?_
    refine to_icf (pc := 24) rw_199_24 (cd_no (c := .lt) (show ¬ x1.toInt < (0 : Int32).toInt from (by have e1 : (0 : Int32).toInt = 0 := rfl; omega))) ?_
    refine to_c (pc := 27) rw_199_27 (x := (-1 : Int32)) rfl rfl ?_
    refine to_go (pc := 28) rw_199_28 ?_
    refine to_r0 (pc := 39) rw_199_39 ?_
    refine to_ict (pc := 751) rw_0_751 (by decide +kernel) ?_
    exact op_tail (op_c fC_fr_M)
set_option maxHeartbeats 0 in
set_option maxRecDepth 4000 in
theorem op_15 {fr_M fr_1 fr_2 fr_3 fr_4 fr_5 fr_6 fr_7 fr_8 fr_9 fr_10 fr_11 fr_12 : mm_M} (HM : fr_Eq fr_M fr_1 fr_2 fr_3 fr_4 fr_5 fr_6 fr_7 fr_8 fr_9 fr_10 fr_11 fr_12) {xs : Nat → Int32} {x1 x2 x3 x4 x5 : Int32} (hx1 : xs 1 = x1) (hx2 : xs 2 = x2) (hx3 : xs 3 = x3) (hx4 : xs 4 = x4) (hx5 : xs 5 = x5) : mm_T (fr_X 6 xs) 40 0 756 [.ref mm_ext, .ref 0, .ref 77, .ref 125, .int 0, .null, .null] [] fr_M op_Q := by
  have z0 : (0 : Int32).toInt = 0 := rfl
  have fC_fr_M := fC_fr_M HM
  have fI_fr_M_0_12 := fI_fr_M_0_12 HM
  have fI_fr_M_6_0 := fI_fr_M_6_0 HM
  have fI_fr_M_77_28 := fI_fr_M_77_28 HM
  have fI_fr_M_77_29 := fI_fr_M_77_29 HM
  have fO_fr_M_0_10 := fO_fr_M_0_10 HM
  have fO_fr_M_6_3 := fO_fr_M_6_3 HM
  have fO_fr_M_77_11 := fO_fr_M_77_11 HM
  have fR_fr_M_0_1 := fR_fr_M_0_1 HM
  refine to_an (pc := 756) rw_0_756 rfl ?_
  refine to_an (pc := 757) rw_0_757 rfl ?_
  refine to_i (pc := 758) rw_0_758 rfl ?_
  refine to_c (pc := 760) rw_0_760 (x := (1 : Int32)) rfl rfl ?_
  refine to_2 (pc := 761) rw_0_761 (v := (1 : Int32)) (by decide +kernel) ?_
  refine op_x (pc := 762) rw_0_762 (k := 1) (by decide +kernel) hx1 ?_
  refine to_an (pc := 763) rw_0_763 rfl ?_
  refine to_i (pc := 764) rw_0_764 rfl ?_
  refine to_c (pc := 766) rw_0_766 (x := (2 : Int32)) rfl rfl ?_
  refine to_2 (pc := 767) rw_0_767 (v := (2 : Int32)) (by decide +kernel) ?_
  refine op_x (pc := 768) rw_0_768 (k := 2) (by decide +kernel) hx2 ?_
  refine to_v (pc := 769) rw_0_769 (hi := rfl) (ls0 := [.ref 0, .int _, .int _]) rfl (Nat.le_of_ble_eq_true rfl) (Nat.le_of_ble_eq_true rfl) rfl (to_rc rfl rfl rfl fO_fr_M_0_10) rfl ?_
  refine to_an (pc := 0) rw_124_0 rfl ?_
  refine to_in (pc := 1) rw_124_1 rfl ?_
  refine to_v (pc := 2) rw_124_2 (hi := rfl) (ls0 := [.ref 0, .int _]) rfl (Nat.le_of_ble_eq_true rfl) (Nat.le_of_ble_eq_true rfl) rfl (to_rc rfl rfl rfl fO_fr_M_0_10) rfl ?_
  refine to_in (pc := 0) rw_139_0 rfl ?_
  rcases Int.lt_or_le x1.toInt (0) with h1 | h1
  · refine to_ift (pc := 1) rw_139_1 (cd_of (c := .lt) (show x1.toInt < (0 : Int32).toInt from (by have e1 : (0 : Int32).toInt = 0 := rfl; omega))) ?_
    refine to_c (pc := 19) rw_139_19 (x := (0 : Int32)) rfl rfl ?_
    refine to_r1 (pc := 20) rw_139_20 (by decide +kernel) ?_
    refine to_ift (pc := 5) rw_124_5 (by decide +kernel) ?_
    refine to_cl (pc := 16) rw_124_16 (x := (-1 : Int64)) rfl rfl ?_
    refine to_rl (pc := 19) rw_124_19 ?_
    refine to_an (pc := 772) rw_0_772 rfl ?_
    refine to_an (pc := 773) rw_0_773 rfl ?_
    refine to_i (pc := 774) rw_0_774 rfl ?_
    refine to_c (pc := 776) rw_0_776 (x := (1 : Int32)) rfl rfl ?_
    refine to_2 (pc := 777) rw_0_777 (v := (1 : Int32)) (by decide +kernel) ?_
    refine op_x (pc := 778) rw_0_778 (k := 1) (by decide +kernel) hx1 ?_
    refine to_an (pc := 779) rw_0_779 rfl ?_
    refine to_i (pc := 780) rw_0_780 rfl ?_
    refine to_c (pc := 782) rw_0_782 (x := (2 : Int32)) rfl rfl ?_
    refine to_2 (pc := 783) rw_0_783 (v := (2 : Int32)) (by decide +kernel) ?_
    refine op_x (pc := 784) rw_0_784 (k := 2) (by decide +kernel) hx2 ?_
    refine to_v (pc := 785) rw_0_785 (hi := rfl) (ls0 := [.ref 77, .int _, .int _]) rfl (Nat.le_of_ble_eq_true rfl) (Nat.le_of_ble_eq_true rfl) rfl (to_rc rfl rfl rfl fO_fr_M_77_11) rfl ?_
    refine to_an (pc := 0) rw_200_0 rfl ?_
    refine to_c (pc := 1) rw_200_1 (x := (0 : Int32)) rfl rfl ?_
    refine tt_pI (pc := 2) rw_200_2 fO_fr_M_77_11 ?_
    refine to_an (pc := 5) rw_200_5 rfl ?_
    refine to_in (pc := 6) rw_200_6 rfl ?_
    refine to_v (pc := 7) rw_200_7 (hi := rfl) (ls0 := [.ref 77, .int _]) rfl (Nat.le_of_ble_eq_true rfl) (Nat.le_of_ble_eq_true rfl) rfl (to_rc rfl rfl rfl fO_fr_M_77_11) rfl ?_
    refine to_in (pc := 0) rw_186_0 rfl ?_
    refine to_ift (pc := 1) rw_186_1 (cd_of (c := .lt) (show x1.toInt < (0 : Int32).toInt from (by have e1 : (0 : Int32).toInt = 0 := rfl; omega))) ?_
    refine to_c (pc := 16) rw_186_16 (x := (0 : Int32)) rfl rfl ?_
    refine to_r1 (pc := 17) rw_186_17 (by decide +kernel) ?_
    refine to_ift (pc := 10) rw_200_10 (by decide +kernel) ?_
    refine to_cl (pc := 21) rw_200_21 (x := (-1 : Int64)) rfl rfl ?_
    refine to_rl (pc := 24) rw_200_24 ?_
    refine to_lc (pc := 788) rw_0_788 (v := (0 : Int32)) (by decide +kernel) ?_
    refine to_ift (pc := 789) rw_0_789 (by decide +kernel) ?_
    exact op_tail (op_c fC_fr_M)
  · refine to_iff (pc := 1) rw_139_1 (cd_no (c := .lt) (show ¬ x1.toInt < (0 : Int32).toInt from (by have e1 : (0 : Int32).toInt = 0 := rfl; omega))) ?_
    refine to_in (pc := 4) rw_139_4 rfl ?_
    refine to_an (pc := 5) rw_139_5 rfl ?_
    refine tt_gR (pc := 6) rw_139_6 fO_fr_M_0_10 fR_fr_M_0_1 ?_
    refine tt_gI (pc := 9) rw_139_9 fO_fr_M_6_3 fI_fr_M_6_0 ?_
    rcases Int.lt_or_le x1.toInt (1) with h2 | h2
    · refine to_icf (pc := 12) rw_139_12 (cd_no (c := .gt) (show ¬ x1.toInt > (0 : Int32).toInt from (by have e1 : (0 : Int32).toInt = 0 := rfl; omega))) ?_
      refine to_c (pc := 15) rw_139_15 (x := (1 : Int32)) rfl rfl ?_
      refine to_go (pc := 16) rw_139_16 ?_
      refine to_r1 (pc := 20) rw_139_20 (by decide +kernel) ?_
      refine to_iff (pc := 5) rw_124_5 (by decide +kernel) ?_
      refine to_an (pc := 8) rw_124_8 rfl ?_
      refine to_in (pc := 9) rw_124_9 rfl ?_
      refine to_v (pc := 10) rw_124_10 (hi := rfl) (ls0 := [.ref 0, .int _]) rfl (Nat.le_of_ble_eq_true rfl) (Nat.le_of_ble_eq_true rfl) rfl (to_rc rfl rfl rfl fO_fr_M_0_10) rfl ?_
      refine to_in (pc := 0) rw_140_0 rfl ?_
      rcases Int.lt_or_le x2.toInt (0) with h3 | h3
      · refine to_ift (pc := 1) rw_140_1 (cd_of (c := .lt) (show x2.toInt < (0 : Int32).toInt from (by have e1 : (0 : Int32).toInt = 0 := rfl; omega))) ?_
        refine to_c (pc := 16) rw_140_16 (x := (0 : Int32)) rfl rfl ?_
        refine to_r1 (pc := 17) rw_140_17 (by decide +kernel) ?_
        refine to_iff (pc := 13) rw_124_13 (by decide +kernel) ?_
        refine to_cl (pc := 16) rw_124_16 (x := (-1 : Int64)) rfl rfl ?_
        refine to_rl (pc := 19) rw_124_19 ?_
        refine to_an (pc := 772) rw_0_772 rfl ?_
        refine to_an (pc := 773) rw_0_773 rfl ?_
        refine to_i (pc := 774) rw_0_774 rfl ?_
        refine to_c (pc := 776) rw_0_776 (x := (1 : Int32)) rfl rfl ?_
        refine to_2 (pc := 777) rw_0_777 (v := (1 : Int32)) (by decide +kernel) ?_
        refine op_x (pc := 778) rw_0_778 (k := 1) (by decide +kernel) hx1 ?_
        refine to_an (pc := 779) rw_0_779 rfl ?_
        refine to_i (pc := 780) rw_0_780 rfl ?_
        refine to_c (pc := 782) rw_0_782 (x := (2 : Int32)) rfl rfl ?_
        refine to_2 (pc := 783) rw_0_783 (v := (2 : Int32)) (by decide +kernel) ?_
        refine op_x (pc := 784) rw_0_784 (k := 2) (by decide +kernel) hx2 ?_
        refine to_v (pc := 785) rw_0_785 (hi := rfl) (ls0 := [.ref 77, .int _, .int _]) rfl (Nat.le_of_ble_eq_true rfl) (Nat.le_of_ble_eq_true rfl) rfl (to_rc rfl rfl rfl fO_fr_M_77_11) rfl ?_
        refine to_an (pc := 0) rw_200_0 rfl ?_
        refine to_c (pc := 1) rw_200_1 (x := (0 : Int32)) rfl rfl ?_
        refine tt_pI (pc := 2) rw_200_2 fO_fr_M_77_11 ?_
        refine to_an (pc := 5) rw_200_5 rfl ?_
        refine to_in (pc := 6) rw_200_6 rfl ?_
        refine to_v (pc := 7) rw_200_7 (hi := rfl) (ls0 := [.ref 77, .int _]) rfl (Nat.le_of_ble_eq_true rfl) (Nat.le_of_ble_eq_true rfl) rfl (to_rc rfl rfl rfl fO_fr_M_77_11) rfl ?_
        refine to_in (pc := 0) rw_186_0 rfl ?_
        refine to_iff (pc := 1) rw_186_1 (cd_no (c := .lt) (show ¬ x1.toInt < (0 : Int32).toInt from (by have e1 : (0 : Int32).toInt = 0 := rfl; omega))) ?_
        refine to_in (pc := 4) rw_186_4 rfl ?_
        refine to_an (pc := 5) rw_186_5 rfl ?_
        refine tt_gI (pc := 6) rw_186_6 fO_fr_M_77_11 (rI_n rfl fI_fr_M_77_29) ?_
        refine to_icf (pc := 9) rw_186_9 (cd_no (c := .gt) (show ¬ x1.toInt > (0 : Int32).toInt from (by have e1 : (0 : Int32).toInt = 0 := rfl; omega))) ?_
        refine to_c (pc := 12) rw_186_12 (x := (1 : Int32)) rfl rfl ?_
        refine to_go (pc := 13) rw_186_13 ?_
        refine to_r1 (pc := 17) rw_186_17 (by decide +kernel) ?_
        refine to_iff (pc := 10) rw_200_10 (by decide +kernel) ?_
        refine to_an (pc := 13) rw_200_13 rfl ?_
        refine to_in (pc := 14) rw_200_14 rfl ?_
        refine to_v (pc := 15) rw_200_15 (hi := rfl) (ls0 := [.ref 77, .int _]) rfl (Nat.le_of_ble_eq_true rfl) (Nat.le_of_ble_eq_true rfl) rfl (to_rc rfl rfl rfl fO_fr_M_77_11) rfl ?_
        refine to_in (pc := 0) rw_187_0 rfl ?_
        refine to_ift (pc := 1) rw_187_1 (cd_of (c := .lt) (show x2.toInt < (0 : Int32).toInt from (by have e1 : (0 : Int32).toInt = 0 := rfl; omega))) ?_
        refine to_c (pc := 16) rw_187_16 (x := (0 : Int32)) rfl rfl ?_
        refine to_r1 (pc := 17) rw_187_17 (by decide +kernel) ?_
        refine to_iff (pc := 18) rw_200_18 (by decide +kernel) ?_
        refine to_cl (pc := 21) rw_200_21 (x := (-1 : Int64)) rfl rfl ?_
        refine to_rl (pc := 24) rw_200_24 ?_
        refine to_lc (pc := 788) rw_0_788 (v := (0 : Int32)) (by decide +kernel) ?_
        refine to_ift (pc := 789) rw_0_789 (by decide +kernel) ?_
        exact op_tail (op_c fC_fr_M)
      · refine to_iff (pc := 1) rw_140_1 (cd_no (c := .lt) (show ¬ x2.toInt < (0 : Int32).toInt from (by have e1 : (0 : Int32).toInt = 0 := rfl; omega))) ?_
        refine to_in (pc := 4) rw_140_4 rfl ?_
        refine to_an (pc := 5) rw_140_5 rfl ?_
        refine tt_gI (pc := 6) rw_140_6 fO_fr_M_0_10 fI_fr_M_0_12 ?_
        refine to_ict (pc := 9) rw_140_9 (cd_of (c := .ge) (show x2.toInt ≥ (0 : Int32).toInt from (by have e1 : (0 : Int32).toInt = 0 := rfl; omega))) ?_
        refine to_c (pc := 16) rw_140_16 (x := (0 : Int32)) rfl rfl ?_
        refine to_r1 (pc := 17) rw_140_17 (by decide +kernel) ?_
        refine to_iff (pc := 13) rw_124_13 (by decide +kernel) ?_
        refine to_cl (pc := 16) rw_124_16 (x := (-1 : Int64)) rfl rfl ?_
        refine to_rl (pc := 19) rw_124_19 ?_
        refine to_an (pc := 772) rw_0_772 rfl ?_
        refine to_an (pc := 773) rw_0_773 rfl ?_
        refine to_i (pc := 774) rw_0_774 rfl ?_
        refine to_c (pc := 776) rw_0_776 (x := (1 : Int32)) rfl rfl ?_
        refine to_2 (pc := 777) rw_0_777 (v := (1 : Int32)) (by decide +kernel) ?_
        refine op_x (pc := 778) rw_0_778 (k := 1) (by decide +kernel) hx1 ?_
        refine to_an (pc := 779) rw_0_779 rfl ?_
        refine to_i (pc := 780) rw_0_780 rfl ?_
        refine to_c (pc := 782) rw_0_782 (x := (2 : Int32)) rfl rfl ?_
        refine to_2 (pc := 783) rw_0_783 (v := (2 : Int32)) (by decide +kernel) ?_
        refine op_x (pc := 784) rw_0_784 (k := 2) (by decide +kernel) hx2 ?_
        refine to_v (pc := 785) rw_0_785 (hi := rfl) (ls0 := [.ref 77, .int _, .int _]) rfl (Nat.le_of_ble_eq_true rfl) (Nat.le_of_ble_eq_true rfl) rfl (to_rc rfl rfl rfl fO_fr_M_77_11) rfl ?_
        refine to_an (pc := 0) rw_200_0 rfl ?_
        refine to_c (pc := 1) rw_200_1 (x := (0 : Int32)) rfl rfl ?_
        refine tt_pI (pc := 2) rw_200_2 fO_fr_M_77_11 ?_
        refine to_an (pc := 5) rw_200_5 rfl ?_
        refine to_in (pc := 6) rw_200_6 rfl ?_
        refine to_v (pc := 7) rw_200_7 (hi := rfl) (ls0 := [.ref 77, .int _]) rfl (Nat.le_of_ble_eq_true rfl) (Nat.le_of_ble_eq_true rfl) rfl (to_rc rfl rfl rfl fO_fr_M_77_11) rfl ?_
        refine to_in (pc := 0) rw_186_0 rfl ?_
        refine to_iff (pc := 1) rw_186_1 (cd_no (c := .lt) (show ¬ x1.toInt < (0 : Int32).toInt from (by have e1 : (0 : Int32).toInt = 0 := rfl; omega))) ?_
        refine to_in (pc := 4) rw_186_4 rfl ?_
        refine to_an (pc := 5) rw_186_5 rfl ?_
        refine tt_gI (pc := 6) rw_186_6 fO_fr_M_77_11 (rI_n rfl fI_fr_M_77_29) ?_
        refine to_icf (pc := 9) rw_186_9 (cd_no (c := .gt) (show ¬ x1.toInt > (0 : Int32).toInt from (by have e1 : (0 : Int32).toInt = 0 := rfl; omega))) ?_
        refine to_c (pc := 12) rw_186_12 (x := (1 : Int32)) rfl rfl ?_
        refine to_go (pc := 13) rw_186_13 ?_
        refine to_r1 (pc := 17) rw_186_17 (by decide +kernel) ?_
        refine to_iff (pc := 10) rw_200_10 (by decide +kernel) ?_
        refine to_an (pc := 13) rw_200_13 rfl ?_
        refine to_in (pc := 14) rw_200_14 rfl ?_
        refine to_v (pc := 15) rw_200_15 (hi := rfl) (ls0 := [.ref 77, .int _]) rfl (Nat.le_of_ble_eq_true rfl) (Nat.le_of_ble_eq_true rfl) rfl (to_rc rfl rfl rfl fO_fr_M_77_11) rfl ?_
        refine to_in (pc := 0) rw_187_0 rfl ?_
        refine to_iff (pc := 1) rw_187_1 (cd_no (c := .lt) (show ¬ x2.toInt < (0 : Int32).toInt from (by have e1 : (0 : Int32).toInt = 0 := rfl; omega))) ?_
        refine to_in (pc := 4) rw_187_4 rfl ?_
        refine to_an (pc := 5) rw_187_5 rfl ?_
        refine tt_gI (pc := 6) rw_187_6 fO_fr_M_77_11 (rI_n rfl fI_fr_M_77_28) ?_
        refine to_ict (pc := 9) rw_187_9 (cd_of (c := .ge) (show x2.toInt ≥ (0 : Int32).toInt from (by have e1 : (0 : Int32).toInt = 0 := rfl; omega))) ?_
        refine to_c (pc := 16) rw_187_16 (x := (0 : Int32)) rfl rfl ?_
        refine to_r1 (pc := 17) rw_187_17 (by decide +kernel) ?_
        refine to_iff (pc := 18) rw_200_18 (by decide +kernel) ?_
        refine to_cl (pc := 21) rw_200_21 (x := (-1 : Int64)) rfl rfl ?_
        refine to_rl (pc := 24) rw_200_24 ?_
        refine to_lc (pc := 788) rw_0_788 (v := (0 : Int32)) (by decide +kernel) ?_
        refine to_ift (pc := 789) rw_0_789 (by decide +kernel) ?_
        exact op_tail (op_c fC_fr_M)
    · refine to_ict (pc := 12) rw_139_12 (cd_of (c := .gt) (show x1.toInt > (0 : Int32).toInt from (by have e1 : (0 : Int32).toInt = 0 := rfl; omega))) ?_
      refine to_c (pc := 19) rw_139_19 (x := (0 : Int32)) rfl rfl ?_
      refine to_r1 (pc := 20) rw_139_20 (by decide +kernel) ?_
      refine to_ift (pc := 5) rw_124_5 (by decide +kernel) ?_
      refine to_cl (pc := 16) rw_124_16 (x := (-1 : Int64)) rfl rfl ?_
      refine to_rl (pc := 19) rw_124_19 ?_
      refine to_an (pc := 772) rw_0_772 rfl ?_
      refine to_an (pc := 773) rw_0_773 rfl ?_
      refine to_i (pc := 774) rw_0_774 rfl ?_
      refine to_c (pc := 776) rw_0_776 (x := (1 : Int32)) rfl rfl ?_
      refine to_2 (pc := 777) rw_0_777 (v := (1 : Int32)) (by decide +kernel) ?_
      refine op_x (pc := 778) rw_0_778 (k := 1) (by decide +kernel) hx1 ?_
      refine to_an (pc := 779) rw_0_779 rfl ?_
      refine to_i (pc := 780) rw_0_780 rfl ?_
      refine to_c (pc := 782) rw_0_782 (x := (2 : Int32)) rfl rfl ?_
      refine to_2 (pc := 783) rw_0_783 (v := (2 : Int32)) (by decide +kernel) ?_
      refine op_x (pc := 784) rw_0_784 (k := 2) (by decide +kernel) hx2 ?_
      refine to_v (pc := 785) rw_0_785 (hi := rfl) (ls0 := [.ref 77, .int _, .int _]) rfl (Nat.le_of_ble_eq_true rfl) (Nat.le_of_ble_eq_true rfl) rfl (to_rc rfl rfl rfl fO_fr_M_77_11) rfl ?_
      refine to_an (pc := 0) rw_200_0 rfl ?_
      refine to_c (pc := 1) rw_200_1 (x := (0 : Int32)) rfl rfl ?_
      refine tt_pI (pc := 2) rw_200_2 fO_fr_M_77_11 ?_
      refine to_an (pc := 5) rw_200_5 rfl ?_
      refine to_in (pc := 6) rw_200_6 rfl ?_
      refine to_v (pc := 7) rw_200_7 (hi := rfl) (ls0 := [.ref 77, .int _]) rfl (Nat.le_of_ble_eq_true rfl) (Nat.le_of_ble_eq_true rfl) rfl (to_rc rfl rfl rfl fO_fr_M_77_11) rfl ?_
      refine to_in (pc := 0) rw_186_0 rfl ?_
      refine to_iff (pc := 1) rw_186_1 (cd_no (c := .lt) (show ¬ x1.toInt < (0 : Int32).toInt from (by have e1 : (0 : Int32).toInt = 0 := rfl; omega))) ?_
      refine to_in (pc := 4) rw_186_4 rfl ?_
      refine to_an (pc := 5) rw_186_5 rfl ?_
      refine tt_gI (pc := 6) rw_186_6 fO_fr_M_77_11 (rI_n rfl fI_fr_M_77_29) ?_
      refine to_ict (pc := 9) rw_186_9 (cd_of (c := .gt) (show x1.toInt > (0 : Int32).toInt from (by have e1 : (0 : Int32).toInt = 0 := rfl; omega))) ?_
      refine to_c (pc := 16) rw_186_16 (x := (0 : Int32)) rfl rfl ?_
      refine to_r1 (pc := 17) rw_186_17 (by decide +kernel) ?_
      refine to_ift (pc := 10) rw_200_10 (by decide +kernel) ?_
      refine to_cl (pc := 21) rw_200_21 (x := (-1 : Int64)) rfl rfl ?_
      refine to_rl (pc := 24) rw_200_24 ?_
      refine to_lc (pc := 788) rw_0_788 (v := (0 : Int32)) (by decide +kernel) ?_
      refine to_ift (pc := 789) rw_0_789 (by decide +kernel) ?_
      exact op_tail (op_c fC_fr_M)
set_option maxHeartbeats 0 in
set_option maxRecDepth 4000 in
theorem op_16 {fr_M fr_1 fr_2 fr_3 fr_4 fr_5 fr_6 fr_7 fr_8 fr_9 fr_10 fr_11 fr_12 : mm_M} (HM : fr_Eq fr_M fr_1 fr_2 fr_3 fr_4 fr_5 fr_6 fr_7 fr_8 fr_9 fr_10 fr_11 fr_12) {xs : Nat → Int32} {x1 x2 x3 x4 x5 : Int32} (hx1 : xs 1 = x1) (hx2 : xs 2 = x2) (hx3 : xs 3 = x3) (hx4 : xs 4 = x4) (hx5 : xs 5 = x5) : mm_T (fr_X 6 xs) 40 0 794 [.ref mm_ext, .ref 0, .ref 77, .ref 125, .int 0, .null, .null] [] fr_M op_Q := by
  have z0 : (0 : Int32).toInt = 0 := rfl
  have fC_fr_M := fC_fr_M HM
  have fI_fr_M_0_12 := fI_fr_M_0_12 HM
  have fI_fr_M_6_0 := fI_fr_M_6_0 HM
  have fI_fr_M_77_28 := fI_fr_M_77_28 HM
  have fI_fr_M_77_29 := fI_fr_M_77_29 HM
  have fO_fr_M_0_10 := fO_fr_M_0_10 HM
  have fO_fr_M_6_3 := fO_fr_M_6_3 HM
  have fO_fr_M_77_11 := fO_fr_M_77_11 HM
  have fR_fr_M_0_1 := fR_fr_M_0_1 HM
  refine to_an (pc := 794) rw_0_794 rfl ?_
  refine to_an (pc := 795) rw_0_795 rfl ?_
  refine to_i (pc := 796) rw_0_796 rfl ?_
  refine to_c (pc := 798) rw_0_798 (x := (1 : Int32)) rfl rfl ?_
  refine to_2 (pc := 799) rw_0_799 (v := (1 : Int32)) (by decide +kernel) ?_
  refine op_x (pc := 800) rw_0_800 (k := 1) (by decide +kernel) hx1 ?_
  refine to_an (pc := 801) rw_0_801 rfl ?_
  refine to_i (pc := 802) rw_0_802 rfl ?_
  refine to_c (pc := 804) rw_0_804 (x := (2 : Int32)) rfl rfl ?_
  refine to_2 (pc := 805) rw_0_805 (v := (2 : Int32)) (by decide +kernel) ?_
  refine op_x (pc := 806) rw_0_806 (k := 2) (by decide +kernel) hx2 ?_
  refine to_an (pc := 807) rw_0_807 rfl ?_
  refine to_i (pc := 808) rw_0_808 rfl ?_
  refine to_c (pc := 810) rw_0_810 (x := (3 : Int32)) rfl rfl ?_
  refine to_2 (pc := 811) rw_0_811 (v := (3 : Int32)) (by decide +kernel) ?_
  refine op_x (pc := 812) rw_0_812 (k := 3) (by decide +kernel) hx3 ?_
  refine to_v (pc := 813) rw_0_813 (hi := rfl) (ls0 := [.ref 0, .int _, .int _, .int _]) rfl (Nat.le_of_ble_eq_true rfl) (Nat.le_of_ble_eq_true rfl) rfl (to_rc rfl rfl rfl fO_fr_M_0_10) rfl ?_
  refine to_an (pc := 0) rw_125_0 rfl ?_
  refine to_in (pc := 1) rw_125_1 rfl ?_
  refine to_v (pc := 2) rw_125_2 (hi := rfl) (ls0 := [.ref 0, .int _]) rfl (Nat.le_of_ble_eq_true rfl) (Nat.le_of_ble_eq_true rfl) rfl (to_rc rfl rfl rfl fO_fr_M_0_10) rfl ?_
  refine to_in (pc := 0) rw_139_0 rfl ?_
  rcases Int.lt_or_le x1.toInt (0) with h1 | h1
  · refine to_ift (pc := 1) rw_139_1 (cd_of (c := .lt) (show x1.toInt < (0 : Int32).toInt from (by have e1 : (0 : Int32).toInt = 0 := rfl; omega))) ?_
    refine to_c (pc := 19) rw_139_19 (x := (0 : Int32)) rfl rfl ?_
    refine to_r1 (pc := 20) rw_139_20 (by decide +kernel) ?_
    refine to_ift (pc := 5) rw_125_5 (by decide +kernel) ?_
    refine to_c (pc := 27) rw_125_27 (x := (-2 : Int32)) rfl rfl ?_
    refine to_r0 (pc := 29) rw_125_29 ?_
    refine to_an (pc := 816) rw_0_816 rfl ?_
    refine to_an (pc := 817) rw_0_817 rfl ?_
    refine to_i (pc := 818) rw_0_818 rfl ?_
    refine to_c (pc := 820) rw_0_820 (x := (1 : Int32)) rfl rfl ?_
    refine to_2 (pc := 821) rw_0_821 (v := (1 : Int32)) (by decide +kernel) ?_
    refine op_x (pc := 822) rw_0_822 (k := 1) (by decide +kernel) hx1 ?_
    refine to_an (pc := 823) rw_0_823 rfl ?_
    refine to_i (pc := 824) rw_0_824 rfl ?_
    refine to_c (pc := 826) rw_0_826 (x := (2 : Int32)) rfl rfl ?_
    refine to_2 (pc := 827) rw_0_827 (v := (2 : Int32)) (by decide +kernel) ?_
    refine op_x (pc := 828) rw_0_828 (k := 2) (by decide +kernel) hx2 ?_
    refine to_an (pc := 829) rw_0_829 rfl ?_
    refine to_i (pc := 830) rw_0_830 rfl ?_
    refine to_c (pc := 832) rw_0_832 (x := (3 : Int32)) rfl rfl ?_
    refine to_2 (pc := 833) rw_0_833 (v := (3 : Int32)) (by decide +kernel) ?_
    refine op_x (pc := 834) rw_0_834 (k := 3) (by decide +kernel) hx3 ?_
    refine to_v (pc := 835) rw_0_835 (hi := rfl) (ls0 := [.ref 77, .int _, .int _, .int _]) rfl (Nat.le_of_ble_eq_true rfl) (Nat.le_of_ble_eq_true rfl) rfl (to_rc rfl rfl rfl fO_fr_M_77_11) rfl ?_
    refine to_an (pc := 0) rw_202_0 rfl ?_
    refine to_c (pc := 1) rw_202_1 (x := (0 : Int32)) rfl rfl ?_
    refine tt_pI (pc := 2) rw_202_2 fO_fr_M_77_11 ?_
    refine to_an (pc := 5) rw_202_5 rfl ?_
    refine to_in (pc := 6) rw_202_6 rfl ?_
    refine to_v (pc := 7) rw_202_7 (hi := rfl) (ls0 := [.ref 77, .int _]) rfl (Nat.le_of_ble_eq_true rfl) (Nat.le_of_ble_eq_true rfl) rfl (to_rc rfl rfl rfl fO_fr_M_77_11) rfl ?_
    refine to_in (pc := 0) rw_186_0 rfl ?_
    refine to_ift (pc := 1) rw_186_1 (cd_of (c := .lt) (show x1.toInt < (0 : Int32).toInt from (by have e1 : (0 : Int32).toInt = 0 := rfl; omega))) ?_
    refine to_c (pc := 16) rw_186_16 (x := (0 : Int32)) rfl rfl ?_
    refine to_r1 (pc := 17) rw_186_17 (by decide +kernel) ?_
    refine to_ift (pc := 10) rw_202_10 (by decide +kernel) ?_
    refine to_c (pc := 29) rw_202_29 (x := (-2 : Int32)) rfl rfl ?_
    refine to_r0 (pc := 31) rw_202_31 ?_
    refine to_ict (pc := 838) rw_0_838 (by decide +kernel) ?_
    exact op_tail (op_c fC_fr_M)
  · refine to_iff (pc := 1) rw_139_1 (cd_no (c := .lt) (show ¬ x1.toInt < (0 : Int32).toInt from (by have e1 : (0 : Int32).toInt = 0 := rfl; omega))) ?_
    refine to_in (pc := 4) rw_139_4 rfl ?_
    refine to_an (pc := 5) rw_139_5 rfl ?_
    refine tt_gR (pc := 6) rw_139_6 fO_fr_M_0_10 fR_fr_M_0_1 ?_
    refine tt_gI (pc := 9) rw_139_9 fO_fr_M_6_3 fI_fr_M_6_0 ?_
    rcases Int.lt_or_le x1.toInt (1) with h2 | h2
    · refine to_icf (pc := 12) rw_139_12 (cd_no (c := .gt) (show ¬ x1.toInt > (0 : Int32).toInt from (by have e1 : (0 : Int32).toInt = 0 := rfl; omega))) ?_
      refine to_c (pc := 15) rw_139_15 (x := (1 : Int32)) rfl rfl ?_
      refine to_go (pc := 16) rw_139_16 ?_
      refine to_r1 (pc := 20) rw_139_20 (by decide +kernel) ?_
      refine to_iff (pc := 5) rw_125_5 (by decide +kernel) ?_
      refine to_an (pc := 8) rw_125_8 rfl ?_
      refine to_in (pc := 9) rw_125_9 rfl ?_
      refine to_v (pc := 10) rw_125_10 (hi := rfl) (ls0 := [.ref 0, .int _]) rfl (Nat.le_of_ble_eq_true rfl) (Nat.le_of_ble_eq_true rfl) rfl (to_rc rfl rfl rfl fO_fr_M_0_10) rfl ?_
      refine to_in (pc := 0) rw_140_0 rfl ?_
      rcases Int.lt_or_le x2.toInt (0) with h3 | h3
      · refine to_ift (pc := 1) rw_140_1 (cd_of (c := .lt) (show x2.toInt < (0 : Int32).toInt from (by have e1 : (0 : Int32).toInt = 0 := rfl; omega))) ?_
        refine to_c (pc := 16) rw_140_16 (x := (0 : Int32)) rfl rfl ?_
        refine to_r1 (pc := 17) rw_140_17 (by decide +kernel) ?_
        refine to_ift (pc := 13) rw_125_13 (by decide +kernel) ?_
        refine to_c (pc := 27) rw_125_27 (x := (-2 : Int32)) rfl rfl ?_
        refine to_r0 (pc := 29) rw_125_29 ?_
        refine to_an (pc := 816) rw_0_816 rfl ?_
        refine to_an (pc := 817) rw_0_817 rfl ?_
        refine to_i (pc := 818) rw_0_818 rfl ?_
        refine to_c (pc := 820) rw_0_820 (x := (1 : Int32)) rfl rfl ?_
        refine to_2 (pc := 821) rw_0_821 (v := (1 : Int32)) (by decide +kernel) ?_
        refine op_x (pc := 822) rw_0_822 (k := 1) (by decide +kernel) hx1 ?_
        refine to_an (pc := 823) rw_0_823 rfl ?_
        refine to_i (pc := 824) rw_0_824 rfl ?_
        refine to_c (pc := 826) rw_0_826 (x := (2 : Int32)) rfl rfl ?_
        refine to_2 (pc := 827) rw_0_827 (v := (2 : Int32)) (by decide +kernel) ?_
        refine op_x (pc := 828) rw_0_828 (k := 2) (by decide +kernel) hx2 ?_
        refine to_an (pc := 829) rw_0_829 rfl ?_
        refine to_i (pc := 830) rw_0_830 rfl ?_
        refine to_c (pc := 832) rw_0_832 (x := (3 : Int32)) rfl rfl ?_
        refine to_2 (pc := 833) rw_0_833 (v := (3 : Int32)) (by decide +kernel) ?_
        refine op_x (pc := 834) rw_0_834 (k := 3) (by decide +kernel) hx3 ?_
        refine to_v (pc := 835) rw_0_835 (hi := rfl) (ls0 := [.ref 77, .int _, .int _, .int _]) rfl (Nat.le_of_ble_eq_true rfl) (Nat.le_of_ble_eq_true rfl) rfl (to_rc rfl rfl rfl fO_fr_M_77_11) rfl ?_
        refine to_an (pc := 0) rw_202_0 rfl ?_
        refine to_c (pc := 1) rw_202_1 (x := (0 : Int32)) rfl rfl ?_
        refine tt_pI (pc := 2) rw_202_2 fO_fr_M_77_11 ?_
        refine to_an (pc := 5) rw_202_5 rfl ?_
        refine to_in (pc := 6) rw_202_6 rfl ?_
        refine to_v (pc := 7) rw_202_7 (hi := rfl) (ls0 := [.ref 77, .int _]) rfl (Nat.le_of_ble_eq_true rfl) (Nat.le_of_ble_eq_true rfl) rfl (to_rc rfl rfl rfl fO_fr_M_77_11) rfl ?_
        refine to_in (pc := 0) rw_186_0 rfl ?_
        refine to_iff (pc := 1) rw_186_1 (cd_no (c := .lt) (show ¬ x1.toInt < (0 : Int32).toInt from (by have e1 : (0 : Int32).toInt = 0 := rfl; omega))) ?_
        refine to_in (pc := 4) rw_186_4 rfl ?_
        refine to_an (pc := 5) rw_186_5 rfl ?_
        refine tt_gI (pc := 6) rw_186_6 fO_fr_M_77_11 (rI_n rfl fI_fr_M_77_29) ?_
        refine to_icf (pc := 9) rw_186_9 (cd_no (c := .gt) (show ¬ x1.toInt > (0 : Int32).toInt from (by have e1 : (0 : Int32).toInt = 0 := rfl; omega))) ?_
        refine to_c (pc := 12) rw_186_12 (x := (1 : Int32)) rfl rfl ?_
        refine to_go (pc := 13) rw_186_13 ?_
        refine to_r1 (pc := 17) rw_186_17 (by decide +kernel) ?_
        refine to_iff (pc := 10) rw_202_10 (by decide +kernel) ?_
        refine to_an (pc := 13) rw_202_13 rfl ?_
        refine to_in (pc := 14) rw_202_14 rfl ?_
        refine to_v (pc := 15) rw_202_15 (hi := rfl) (ls0 := [.ref 77, .int _]) rfl (Nat.le_of_ble_eq_true rfl) (Nat.le_of_ble_eq_true rfl) rfl (to_rc rfl rfl rfl fO_fr_M_77_11) rfl ?_
        refine to_in (pc := 0) rw_187_0 rfl ?_
        refine to_ift (pc := 1) rw_187_1 (cd_of (c := .lt) (show x2.toInt < (0 : Int32).toInt from (by have e1 : (0 : Int32).toInt = 0 := rfl; omega))) ?_
        refine to_c (pc := 16) rw_187_16 (x := (0 : Int32)) rfl rfl ?_
        refine to_r1 (pc := 17) rw_187_17 (by decide +kernel) ?_
        refine to_ift (pc := 18) rw_202_18 (by decide +kernel) ?_
        refine to_c (pc := 29) rw_202_29 (x := (-2 : Int32)) rfl rfl ?_
        refine to_r0 (pc := 31) rw_202_31 ?_
        refine to_ict (pc := 838) rw_0_838 (by decide +kernel) ?_
        exact op_tail (op_c fC_fr_M)
      · refine to_iff (pc := 1) rw_140_1 (cd_no (c := .lt) (show ¬ x2.toInt < (0 : Int32).toInt from (by have e1 : (0 : Int32).toInt = 0 := rfl; omega))) ?_
        refine to_in (pc := 4) rw_140_4 rfl ?_
        refine to_an (pc := 5) rw_140_5 rfl ?_
        refine tt_gI (pc := 6) rw_140_6 fO_fr_M_0_10 fI_fr_M_0_12 ?_
        refine to_ict (pc := 9) rw_140_9 (cd_of (c := .ge) (show x2.toInt ≥ (0 : Int32).toInt from (by have e1 : (0 : Int32).toInt = 0 := rfl; omega))) ?_
        refine to_c (pc := 16) rw_140_16 (x := (0 : Int32)) rfl rfl ?_
        refine to_r1 (pc := 17) rw_140_17 (by decide +kernel) ?_
        refine to_ift (pc := 13) rw_125_13 (by decide +kernel) ?_
        refine to_c (pc := 27) rw_125_27 (x := (-2 : Int32)) rfl rfl ?_
        refine to_r0 (pc := 29) rw_125_29 ?_
        refine to_an (pc := 816) rw_0_816 rfl ?_
        refine to_an (pc := 817) rw_0_817 rfl ?_
        refine to_i (pc := 818) rw_0_818 rfl ?_
        refine to_c (pc := 820) rw_0_820 (x := (1 : Int32)) rfl rfl ?_
        refine to_2 (pc := 821) rw_0_821 (v := (1 : Int32)) (by decide +kernel) ?_
        refine op_x (pc := 822) rw_0_822 (k := 1) (by decide +kernel) hx1 ?_
        refine to_an (pc := 823) rw_0_823 rfl ?_
        refine to_i (pc := 824) rw_0_824 rfl ?_
        refine to_c (pc := 826) rw_0_826 (x := (2 : Int32)) rfl rfl ?_
        refine to_2 (pc := 827) rw_0_827 (v := (2 : Int32)) (by decide +kernel) ?_
        refine op_x (pc := 828) rw_0_828 (k := 2) (by decide +kernel) hx2 ?_
        refine to_an (pc := 829) rw_0_829 rfl ?_
        refine to_i (pc := 830) rw_0_830 rfl ?_
        refine to_c (pc := 832) rw_0_832 (x := (3 : Int32)) rfl rfl ?_
        refine to_2 (pc := 833) rw_0_833 (v := (3 : Int32)) (by decide +kernel) ?_
        refine op_x (pc := 834) rw_0_834 (k := 3) (by decide +kernel) hx3 ?_
        refine to_v (pc := 835) rw_0_835 (hi := rfl) (ls0 := [.ref 77, .int _, .int _, .int _]) rfl (Nat.le_of_ble_eq_true rfl) (Nat.le_of_ble_eq_true rfl) rfl (to_rc rfl rfl rfl fO_fr_M_77_11) rfl ?_
        refine to_an (pc := 0) rw_202_0 rfl ?_
        refine to_c (pc := 1) rw_202_1 (x := (0 : Int32)) rfl rfl ?_
        refine tt_pI (pc := 2) rw_202_2 fO_fr_M_77_11 ?_
        refine to_an (pc := 5) rw_202_5 rfl ?_
        refine to_in (pc := 6) rw_202_6 rfl ?_
        refine to_v (pc := 7) rw_202_7 (hi := rfl) (ls0 := [.ref 77, .int _]) rfl (Nat.le_of_ble_eq_true rfl) (Nat.le_of_ble_eq_true rfl) rfl (to_rc rfl rfl rfl fO_fr_M_77_11) rfl ?_
        refine to_in (pc := 0) rw_186_0 rfl ?_
        refine to_iff (pc := 1) rw_186_1 (cd_no (c := .lt) (show ¬ x1.toInt < (0 : Int32).toInt from (by have e1 : (0 : Int32).toInt = 0 := rfl; omega))) ?_
        refine to_in (pc := 4) rw_186_4 rfl ?_
        refine to_an (pc := 5) rw_186_5 rfl ?_
        refine tt_gI (pc := 6) rw_186_6 fO_fr_M_77_11 (rI_n rfl fI_fr_M_77_29) ?_
        refine to_icf (pc := 9) rw_186_9 (cd_no (c := .gt) (show ¬ x1.toInt > (0 : Int32).toInt from (by have e1 : (0 : Int32).toInt = 0 := rfl; omega))) ?_
        refine to_c (pc := 12) rw_186_12 (x := (1 : Int32)) rfl rfl ?_
        refine to_go (pc := 13) rw_186_13 ?_
        refine to_r1 (pc := 17) rw_186_17 (by decide +kernel) ?_
        refine to_iff (pc := 10) rw_202_10 (by decide +kernel) ?_
        refine to_an (pc := 13) rw_202_13 rfl ?_
        refine to_in (pc := 14) rw_202_14 rfl ?_
        refine to_v (pc := 15) rw_202_15 (hi := rfl) (ls0 := [.ref 77, .int _]) rfl (Nat.le_of_ble_eq_true rfl) (Nat.le_of_ble_eq_true rfl) rfl (to_rc rfl rfl rfl fO_fr_M_77_11) rfl ?_
        refine to_in (pc := 0) rw_187_0 rfl ?_
        refine to_iff (pc := 1) rw_187_1 (cd_no (c := .lt) (show ¬ x2.toInt < (0 : Int32).toInt from (by have e1 : (0 : Int32).toInt = 0 := rfl; omega))) ?_
        refine to_in (pc := 4) rw_187_4 rfl ?_
        refine to_an (pc := 5) rw_187_5 rfl ?_
        refine tt_gI (pc := 6) rw_187_6 fO_fr_M_77_11 (rI_n rfl fI_fr_M_77_28) ?_
        refine to_ict (pc := 9) rw_187_9 (cd_of (c := .ge) (show x2.toInt ≥ (0 : Int32).toInt from (by have e1 : (0 : Int32).toInt = 0 := rfl; omega))) ?_
        refine to_c (pc := 16) rw_187_16 (x := (0 : Int32)) rfl rfl ?_
        refine to_r1 (pc := 17) rw_187_17 (by decide +kernel) ?_
        refine to_ift (pc := 18) rw_202_18 (by decide +kernel) ?_
        refine to_c (pc := 29) rw_202_29 (x := (-2 : Int32)) rfl rfl ?_
        refine to_r0 (pc := 31) rw_202_31 ?_
        refine to_ict (pc := 838) rw_0_838 (by decide +kernel) ?_
        exact op_tail (op_c fC_fr_M)
    · refine to_ict (pc := 12) rw_139_12 (cd_of (c := .gt) (show x1.toInt > (0 : Int32).toInt from (by have e1 : (0 : Int32).toInt = 0 := rfl; omega))) ?_
      refine to_c (pc := 19) rw_139_19 (x := (0 : Int32)) rfl rfl ?_
      refine to_r1 (pc := 20) rw_139_20 (by decide +kernel) ?_
      refine to_ift (pc := 5) rw_125_5 (by decide +kernel) ?_
      refine to_c (pc := 27) rw_125_27 (x := (-2 : Int32)) rfl rfl ?_
      refine to_r0 (pc := 29) rw_125_29 ?_
      refine to_an (pc := 816) rw_0_816 rfl ?_
      refine to_an (pc := 817) rw_0_817 rfl ?_
      refine to_i (pc := 818) rw_0_818 rfl ?_
      refine to_c (pc := 820) rw_0_820 (x := (1 : Int32)) rfl rfl ?_
      refine to_2 (pc := 821) rw_0_821 (v := (1 : Int32)) (by decide +kernel) ?_
      refine op_x (pc := 822) rw_0_822 (k := 1) (by decide +kernel) hx1 ?_
      refine to_an (pc := 823) rw_0_823 rfl ?_
      refine to_i (pc := 824) rw_0_824 rfl ?_
      refine to_c (pc := 826) rw_0_826 (x := (2 : Int32)) rfl rfl ?_
      refine to_2 (pc := 827) rw_0_827 (v := (2 : Int32)) (by decide +kernel) ?_
      refine op_x (pc := 828) rw_0_828 (k := 2) (by decide +kernel) hx2 ?_
      refine to_an (pc := 829) rw_0_829 rfl ?_
      refine to_i (pc := 830) rw_0_830 rfl ?_
      refine to_c (pc := 832) rw_0_832 (x := (3 : Int32)) rfl rfl ?_
      refine to_2 (pc := 833) rw_0_833 (v := (3 : Int32)) (by decide +kernel) ?_
      refine op_x (pc := 834) rw_0_834 (k := 3) (by decide +kernel) hx3 ?_
      refine to_v (pc := 835) rw_0_835 (hi := rfl) (ls0 := [.ref 77, .int _, .int _, .int _]) rfl (Nat.le_of_ble_eq_true rfl) (Nat.le_of_ble_eq_true rfl) rfl (to_rc rfl rfl rfl fO_fr_M_77_11) rfl ?_
      refine to_an (pc := 0) rw_202_0 rfl ?_
      refine to_c (pc := 1) rw_202_1 (x := (0 : Int32)) rfl rfl ?_
      refine tt_pI (pc := 2) rw_202_2 fO_fr_M_77_11 ?_
      refine to_an (pc := 5) rw_202_5 rfl ?_
      refine to_in (pc := 6) rw_202_6 rfl ?_
      refine to_v (pc := 7) rw_202_7 (hi := rfl) (ls0 := [.ref 77, .int _]) rfl (Nat.le_of_ble_eq_true rfl) (Nat.le_of_ble_eq_true rfl) rfl (to_rc rfl rfl rfl fO_fr_M_77_11) rfl ?_
      refine to_in (pc := 0) rw_186_0 rfl ?_
      refine to_iff (pc := 1) rw_186_1 (cd_no (c := .lt) (show ¬ x1.toInt < (0 : Int32).toInt from (by have e1 : (0 : Int32).toInt = 0 := rfl; omega))) ?_
      refine to_in (pc := 4) rw_186_4 rfl ?_
      refine to_an (pc := 5) rw_186_5 rfl ?_
      refine tt_gI (pc := 6) rw_186_6 fO_fr_M_77_11 (rI_n rfl fI_fr_M_77_29) ?_
      refine to_ict (pc := 9) rw_186_9 (cd_of (c := .gt) (show x1.toInt > (0 : Int32).toInt from (by have e1 : (0 : Int32).toInt = 0 := rfl; omega))) ?_
      refine to_c (pc := 16) rw_186_16 (x := (0 : Int32)) rfl rfl ?_
      refine to_r1 (pc := 17) rw_186_17 (by decide +kernel) ?_
      refine to_ift (pc := 10) rw_202_10 (by decide +kernel) ?_
      refine to_c (pc := 29) rw_202_29 (x := (-2 : Int32)) rfl rfl ?_
      refine to_r0 (pc := 31) rw_202_31 ?_
      refine to_ict (pc := 838) rw_0_838 (by decide +kernel) ?_
      exact op_tail (op_c fC_fr_M)
set_option maxHeartbeats 0 in
set_option maxRecDepth 4000 in
theorem op_17 {fr_M fr_1 fr_2 fr_3 fr_4 fr_5 fr_6 fr_7 fr_8 fr_9 fr_10 fr_11 fr_12 : mm_M} (HM : fr_Eq fr_M fr_1 fr_2 fr_3 fr_4 fr_5 fr_6 fr_7 fr_8 fr_9 fr_10 fr_11 fr_12) {xs : Nat → Int32} {x1 x2 x3 x4 x5 : Int32} (hx1 : xs 1 = x1) (hx2 : xs 2 = x2) (hx3 : xs 3 = x3) (hx4 : xs 4 = x4) (hx5 : xs 5 = x5) : mm_T (fr_X 6 xs) 40 0 843 [.ref mm_ext, .ref 0, .ref 77, .ref 125, .int 0, .null, .null] [] fr_M op_Q := by
  have z0 : (0 : Int32).toInt = 0 := rfl
  have fC_fr_M := fC_fr_M HM
  have fI_fr_M_0_12 := fI_fr_M_0_12 HM
  have fI_fr_M_77_28 := fI_fr_M_77_28 HM
  have fO_fr_M_0_10 := fO_fr_M_0_10 HM
  have fO_fr_M_77_11 := fO_fr_M_77_11 HM
  refine to_an (pc := 843) rw_0_843 rfl ?_
  refine to_an (pc := 844) rw_0_844 rfl ?_
  refine to_i (pc := 845) rw_0_845 rfl ?_
  refine to_c (pc := 847) rw_0_847 (x := (1 : Int32)) rfl rfl ?_
  refine to_2 (pc := 848) rw_0_848 (v := (1 : Int32)) (by decide +kernel) ?_
  refine op_x (pc := 849) rw_0_849 (k := 1) (by decide +kernel) hx1 ?_
  refine to_v (pc := 850) rw_0_850 (hi := rfl) (ls0 := [.ref 0, .int _]) rfl (Nat.le_of_ble_eq_true rfl) (Nat.le_of_ble_eq_true rfl) rfl (to_rc rfl rfl rfl fO_fr_M_0_10) rfl ?_
  refine to_an (pc := 0) rw_126_0 rfl ?_
  refine to_in (pc := 1) rw_126_1 rfl ?_
  refine to_v (pc := 2) rw_126_2 (hi := rfl) (ls0 := [.ref 0, .int _]) rfl (Nat.le_of_ble_eq_true rfl) (Nat.le_of_ble_eq_true rfl) rfl (to_rc rfl rfl rfl fO_fr_M_0_10) rfl ?_
  refine to_in (pc := 0) rw_140_0 rfl ?_
  rcases Int.lt_or_le x1.toInt (0) with h1 | h1
  · refine to_ift (pc := 1) rw_140_1 (cd_of (c := .lt) (show x1.toInt < (0 : Int32).toInt from (by have e1 : (0 : Int32).toInt = 0 := rfl; omega))) ?_
    refine to_c (pc := 16) rw_140_16 (x := (0 : Int32)) rfl rfl ?_
    refine to_r1 (pc := 17) rw_140_17 (by decide +kernel) ?_
    refine to_iff (pc := 5) rw_126_5 (by decide +kernel) ?_
    refine to_c (pc := 8) rw_126_8 (x := (0 : Int32)) rfl rfl ?_
    refine to_r1 (pc := 9) rw_126_9 (by decide +kernel) ?_
    refine to_an (pc := 853) rw_0_853 rfl ?_
    refine to_an (pc := 854) rw_0_854 rfl ?_
    refine to_i (pc := 855) rw_0_855 rfl ?_
    refine to_c (pc := 857) rw_0_857 (x := (1 : Int32)) rfl rfl ?_
    refine to_2 (pc := 858) rw_0_858 (v := (1 : Int32)) (by decide +kernel) ?_
    refine op_x (pc := 859) rw_0_859 (k := 1) (by decide +kernel) hx1 ?_
    refine to_v (pc := 860) rw_0_860 (hi := rfl) (ls0 := [.ref 77, .int _]) rfl (Nat.le_of_ble_eq_true rfl) (Nat.le_of_ble_eq_true rfl) rfl (to_rc rfl rfl rfl fO_fr_M_77_11) rfl ?_
    refine to_an (pc := 0) rw_203_0 rfl ?_
    refine to_c (pc := 1) rw_203_1 (x := (0 : Int32)) rfl rfl ?_
    refine tt_pI (pc := 2) rw_203_2 fO_fr_M_77_11 ?_
    refine to_an (pc := 5) rw_203_5 rfl ?_
    refine to_in (pc := 6) rw_203_6 rfl ?_
    refine to_v (pc := 7) rw_203_7 (hi := rfl) (ls0 := [.ref 77, .int _]) rfl (Nat.le_of_ble_eq_true rfl) (Nat.le_of_ble_eq_true rfl) rfl (to_rc rfl rfl rfl fO_fr_M_77_11) rfl ?_
    refine to_in (pc := 0) rw_187_0 rfl ?_
    refine to_ift (pc := 1) rw_187_1 (cd_of (c := .lt) (show x1.toInt < (0 : Int32).toInt from (by have e1 : (0 : Int32).toInt = 0 := rfl; omega))) ?_
    refine to_c (pc := 16) rw_187_16 (x := (0 : Int32)) rfl rfl ?_
    refine to_r1 (pc := 17) rw_187_17 (by decide +kernel) ?_
    refine to_iff (pc := 10) rw_203_10 (by decide +kernel) ?_
    refine to_c (pc := 13) rw_203_13 (x := (0 : Int32)) rfl rfl ?_
    refine to_r1 (pc := 14) rw_203_14 (by decide +kernel) ?_
    refine to_ict (pc := 863) rw_0_863 (by decide +kernel) ?_
    exact op_tail (op_c fC_fr_M)
  · refine to_iff (pc := 1) rw_140_1 (cd_no (c := .lt) (show ¬ x1.toInt < (0 : Int32).toInt from (by have e1 : (0 : Int32).toInt = 0 := rfl; omega))) ?_
    refine to_in (pc := 4) rw_140_4 rfl ?_
    refine to_an (pc := 5) rw_140_5 rfl ?_
    refine tt_gI (pc := 6) rw_140_6 fO_fr_M_0_10 fI_fr_M_0_12 ?_
    refine to_ict (pc := 9) rw_140_9 (cd_of (c := .ge) (show x1.toInt ≥ (0 : Int32).toInt from (by have e1 : (0 : Int32).toInt = 0 := rfl; omega))) ?_
    refine to_c (pc := 16) rw_140_16 (x := (0 : Int32)) rfl rfl ?_
    refine to_r1 (pc := 17) rw_140_17 (by decide +kernel) ?_
    refine to_iff (pc := 5) rw_126_5 (by decide +kernel) ?_
    refine to_c (pc := 8) rw_126_8 (x := (0 : Int32)) rfl rfl ?_
    refine to_r1 (pc := 9) rw_126_9 (by decide +kernel) ?_
    refine to_an (pc := 853) rw_0_853 rfl ?_
    refine to_an (pc := 854) rw_0_854 rfl ?_
    refine to_i (pc := 855) rw_0_855 rfl ?_
    refine to_c (pc := 857) rw_0_857 (x := (1 : Int32)) rfl rfl ?_
    refine to_2 (pc := 858) rw_0_858 (v := (1 : Int32)) (by decide +kernel) ?_
    refine op_x (pc := 859) rw_0_859 (k := 1) (by decide +kernel) hx1 ?_
    refine to_v (pc := 860) rw_0_860 (hi := rfl) (ls0 := [.ref 77, .int _]) rfl (Nat.le_of_ble_eq_true rfl) (Nat.le_of_ble_eq_true rfl) rfl (to_rc rfl rfl rfl fO_fr_M_77_11) rfl ?_
    refine to_an (pc := 0) rw_203_0 rfl ?_
    refine to_c (pc := 1) rw_203_1 (x := (0 : Int32)) rfl rfl ?_
    refine tt_pI (pc := 2) rw_203_2 fO_fr_M_77_11 ?_
    refine to_an (pc := 5) rw_203_5 rfl ?_
    refine to_in (pc := 6) rw_203_6 rfl ?_
    refine to_v (pc := 7) rw_203_7 (hi := rfl) (ls0 := [.ref 77, .int _]) rfl (Nat.le_of_ble_eq_true rfl) (Nat.le_of_ble_eq_true rfl) rfl (to_rc rfl rfl rfl fO_fr_M_77_11) rfl ?_
    refine to_in (pc := 0) rw_187_0 rfl ?_
    refine to_iff (pc := 1) rw_187_1 (cd_no (c := .lt) (show ¬ x1.toInt < (0 : Int32).toInt from (by have e1 : (0 : Int32).toInt = 0 := rfl; omega))) ?_
    refine to_in (pc := 4) rw_187_4 rfl ?_
    refine to_an (pc := 5) rw_187_5 rfl ?_
    refine tt_gI (pc := 6) rw_187_6 fO_fr_M_77_11 (rI_n rfl fI_fr_M_77_28) ?_
    refine to_ict (pc := 9) rw_187_9 (cd_of (c := .ge) (show x1.toInt ≥ (0 : Int32).toInt from (by have e1 : (0 : Int32).toInt = 0 := rfl; omega))) ?_
    refine to_c (pc := 16) rw_187_16 (x := (0 : Int32)) rfl rfl ?_
    refine to_r1 (pc := 17) rw_187_17 (by decide +kernel) ?_
    refine to_iff (pc := 10) rw_203_10 (by decide +kernel) ?_
    refine to_c (pc := 13) rw_203_13 (x := (0 : Int32)) rfl rfl ?_
    refine to_r1 (pc := 14) rw_203_14 (by decide +kernel) ?_
    refine to_ict (pc := 863) rw_0_863 (by decide +kernel) ?_
    exact op_tail (op_c fC_fr_M)
set_option maxHeartbeats 0 in
set_option maxRecDepth 4000 in
theorem op_18 {fr_M fr_1 fr_2 fr_3 fr_4 fr_5 fr_6 fr_7 fr_8 fr_9 fr_10 fr_11 fr_12 : mm_M} (HM : fr_Eq fr_M fr_1 fr_2 fr_3 fr_4 fr_5 fr_6 fr_7 fr_8 fr_9 fr_10 fr_11 fr_12) {xs : Nat → Int32} {x1 x2 x3 x4 x5 : Int32} (hx1 : xs 1 = x1) (hx2 : xs 2 = x2) (hx3 : xs 3 = x3) (hx4 : xs 4 = x4) (hx5 : xs 5 = x5) : mm_T (fr_X 6 xs) 40 0 868 [.ref mm_ext, .ref 0, .ref 77, .ref 125, .int 0, .null, .null] [] fr_M op_Q := by
  have z0 : (0 : Int32).toInt = 0 := rfl
  have fC_fr_M := fC_fr_M HM
  have fI_fr_M_17_4 := fI_fr_M_17_4 HM
  have fI_fr_M_77_41 := fI_fr_M_77_41 HM
  have fO_fr_M_0_10 := fO_fr_M_0_10 HM
  have fO_fr_M_17_4 := fO_fr_M_17_4 HM
  have fO_fr_M_77_11 := fO_fr_M_77_11 HM
  have fR_fr_M_0_3 := fR_fr_M_0_3 HM
  refine to_an (pc := 868) rw_0_868 rfl ?_
  refine to_v (pc := 869) rw_0_869 (hi := rfl) (ls0 := [.ref 0]) rfl (Nat.le_of_ble_eq_true rfl) (Nat.le_of_ble_eq_true rfl) rfl (to_rc rfl rfl rfl fO_fr_M_0_10) rfl ?_
  refine to_an (pc := 0) rw_127_0 rfl ?_
  refine tt_gR (pc := 1) rw_127_1 fO_fr_M_0_10 fR_fr_M_0_3 ?_
  refine tt_gI (pc := 4) rw_127_4 fO_fr_M_17_4 fI_fr_M_17_4 ?_
  refine to_r0 (pc := 7) rw_127_7 ?_
  refine to_an (pc := 872) rw_0_872 rfl ?_
  refine to_v (pc := 873) rw_0_873 (hi := rfl) (ls0 := [.ref 77]) rfl (Nat.le_of_ble_eq_true rfl) (Nat.le_of_ble_eq_true rfl) rfl (to_rc rfl rfl rfl fO_fr_M_77_11) rfl ?_
  refine to_an (pc := 0) rw_204_0 rfl ?_
  refine to_c (pc := 1) rw_204_1 (x := (0 : Int32)) rfl rfl ?_
  refine tt_pI (pc := 2) rw_204_2 fO_fr_M_77_11 ?_
  refine to_an (pc := 5) rw_204_5 rfl ?_
  refine tt_gI (pc := 6) rw_204_6 fO_fr_M_77_11 (rI_n rfl fI_fr_M_77_41) ?_
  refine to_r0 (pc := 9) rw_204_9 ?_
  refine to_ict (pc := 876) rw_0_876 (by decide +kernel) ?_
  exact op_tail (op_c fC_fr_M)
