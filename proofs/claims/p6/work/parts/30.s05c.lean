theorem tg_466 : ∀ a i : Nat, (a = 77 ∧ 11 ≤ i ∧ i ≤ 13 ∨ 80 ≤ a ∧ a ≤ 84 ∧ i < 8 ∨ 85 ≤ a ∧ a ≤ 86 ∧ i < 12) → ¬ (a = 77 ∧ i = 69) := fun a i z => by omega
theorem hzc_1 : ∀ a i : Nat, (112 ≤ a ∧ a ≤ 114 ∧ 40 ≤ i ∧ i < 40 + 40 ∨ a = 81 ∧ i < 8) → ¬ (a = 77 ∧ i = 69) := fun a i z => by omega
theorem hzc_2 : ∀ a i : Nat, (112 ≤ a ∧ a ≤ 114 ∧ 40 ≤ i ∧ i < 40 + 40 ∨ a = 81 ∧ i < 8) → ¬ (a = 77 ∧ i = 65) := fun a i z => by omega
theorem hzc_3 : ∀ a i : Nat, (112 ≤ a ∧ a ≤ 114 ∧ 40 ≤ i ∧ i < 40 + 40 ∨ a = 81 ∧ i < 8) → ¬ (a = 77 ∧ 7 ≤ i ∧ i ≤ 10) := fun a i z => by omega
theorem hzc_4 : ∀ a i : Nat, (112 ≤ a ∧ a ≤ 114 ∧ 40 ≤ i ∧ i < 40 + 40 ∨ a = 81 ∧ i < 8) → ¬ (a = 77 ∧ i = 67) := fun a i z => by omega
theorem hzc_5 (i : Nat) : ¬ (115 = 77 ∧ 7 ≤ i ∧ i ≤ 10) := by omega
theorem th_21 : ∀ a i : Nat, (81 ≤ a ∧ a ≤ 84) → ¬ (a = 77 ∧ i = 69) := fun a i z => by omega
theorem th_22 : ∀ a i : Nat, (a = 77 ∧ 6 ≤ i ∧ i ≤ 10) → ¬ (a = 77 ∧ i = 69) := fun a i z => by omega
theorem th_23 : ∀ a i : Nat, a = 78 → ¬ (a = 77 ∧ i = 69) := fun a i z => by omega
theorem th_24 : ∀ a i : Nat, a = 79 → ¬ (a = 77 ∧ i = 69) := fun a i z => by omega
theorem th_25 : ∀ a i : Nat, (a = 77 ∧ 11 ≤ i ∧ i ≤ 13 ∨ 80 ≤ a ∧ a ≤ 84 ∧ i < 8 ∨ 85 ≤ a ∧ a ≤ 86 ∧ i < 12) → ¬ (a = 77 ∧ i = 69) := fun a i z => by omega
theorem th_26 : ∀ a i : Nat, (a = 77 ∧ 6 ≤ i ∧ i ≤ 10) → ¬ (a = 77 ∧ i = 65) := fun a i z => by omega
theorem th_27 : ∀ a i j : Nat, (a = 77 ∧ 6 ≤ i ∧ i ≤ 10) → ¬ (a = 115 ∧ i = j) := fun a i j z => by omega
theorem th_28 : ∀ a i : Nat, a = 78 → ¬ (a = 77 ∧ i = 65) := fun a i z => by omega
theorem th_29 : ∀ a i j : Nat, a = 78 → ¬ (a = 115 ∧ i = j) := fun a i j z => by omega
theorem th_30 : ∀ a i : Nat, a = 79 → ¬ (a = 77 ∧ i = 65) := fun a i z => by omega
theorem th_31 : ∀ a i j : Nat, a = 79 → ¬ (a = 115 ∧ i = j) := fun a i j z => by omega
theorem th_32 : ∀ a i : Nat, (a = 77 ∧ 6 ≤ i ∧ i ≤ 10) → ¬ (a = 77 ∧ i = 67) := fun a i z => by omega
theorem th_33 : ∀ a i : Nat, a = 78 → ¬ (a = 77 ∧ i = 67) := fun a i z => by omega
theorem th_34 : ∀ a i : Nat, a = 79 → ¬ (a = 77 ∧ i = 67) := fun a i z => by omega
set_option maxRecDepth 4000 in
set_option maxHeartbeats 0 in
theorem E_225 {X : mm_X} {d : Nat} {M : mm_M} {Q : Option Value → mm_M → Prop} {t : Nat → Int} {nn : Int} {a : Int} {sg : x_S} (hX : g_X X) (hd : 2 ≤ d) (hG : g_G M) (q1 : (M.2.1 77 7).toInt ≤ (M.2.1 77 6).toInt) (q2 : QK M) (q3 : FA M) (q4 : (M.2.1 77 68).toInt = 0) (q5 : RS M t nn) (q6 : (M.2.1 77 10).toInt = a) (q7 : 0 ≤ nn) (q8 : nn ≤ 500) (q9 : TR M t nn) (q10 : W9 M) (q11 : PLk M sg) (q12 : (M.2.1 77 59).toInt + Wo M ((M.2.1 77 65).toInt).toNat = (M.2.1 77 69).toInt) (h : ∀ (r : Int32) (M1 : mm_M), g_G M1 → FR md_qr M M1 → (0 ≤ r.toInt) → (r.toInt ≤ 1) → ((M1.2.1 77 7).toInt ≤ (M1.2.1 77 6).toInt) → ((M.2.1 77 7).toInt ≤ (M1.2.1 77 7).toInt) → ((r.toInt = 1 → (M1.2.1 77 8).toInt = 0 ∨ (M.2.1 77 7).toInt < (M1.2.1 77 7).toInt)) → (r.toInt = 1 → ¬ (M.2.1 77 8).toInt = 0) → ((r.toInt = 1 → QK M1)) → ((r.toInt = 1 → (M1.2.1 77 59).toInt + Wo M1 ((M1.2.1 77 65).toInt).toNat = (M1.2.1 77 69).toInt)) → ((r.toInt = 1 → RS M1 t nn)) → ((r.toInt = 1 → x_qq t nn sg 0 (M.2.1 77 67).toInt (M.2.1 77 69).toInt a = x_qq t nn sg (M1.2.1 77 68).toInt (M1.2.1 77 67).toInt (M1.2.1 77 69).toInt (M1.2.1 77 10).toInt)) → ((r.toInt = 0 → x_qq t nn sg 0 (M.2.1 77 67).toInt (M.2.1 77 69).toInt a = Sum.inl ((M1.2.1 77 4).toInt, (M1.2.1 77 5).toInt))) → Q (some (.int r)) M1) : mm_T X d 224 0 [.ref 77, .null, .null, .null, .null, .null] [] M Q := by
  have F0 : FR md_qr M M := FR.rf
  have b_520 := g_b hG (a := 77) (i := 7) (lo := 0) (hi := 500) rfl rfl
  have b_521 := g_b hG (a := 77) (i := 6) (lo := 0) (hi := 500) rfl rfl
  have b_522 := g_b hG (a := 77) (i := 68) (lo := 0) (hi := 1) rfl rfl
  have b_523 := g_b hG (a := 77) (i := 10) (lo := 0) (hi := 500) rfl rfl
  have b_524 := g_b hG (a := 77) (i := 59) (lo := 0) (hi := 40) rfl rfl
  have b_525 := g_b hG (a := 77) (i := 65) (lo := 0) (hi := 48) rfl rfl
  have b_526 := g_b hG (a := 77) (i := 66) (lo := 0) (hi := 40) rfl rfl
  have b_527 := g_b hG (a := 77) (i := 67) (lo := 0) (hi := 8) rfl rfl
  have b_528 := g_b hG (a := 77) (i := 69) (lo := 0) (hi := 40) rfl rfl
  have s_529 := QK_e q2
  have s_530 := Wx_b M ((M.2.1 77 65).toInt).toNat
  have b_531 := g_b hG (a := 77) (i := 8) (lo := 0) (hi := 5) rfl rfl
  have z_532 := RS_k q5 (a := a) (by omega)
  have z_533 := q11.2.1
  have z_534 := q11.2.2.1
  have z_535 := q11.2.2.2.1
  have z_536 := q11.1
  have z_537 := z_536.1
  have z_538 := z_536.2.1
  have z_539 := z_536.2.2.1
  have z_540 := z_536.2.2.2.1
  have z_541 := z_536.2.2.2.2.1
  have z_542 := z_536.2.2.2.2.2.1
  have b_543 := g_b hG (a := 77) (i := 11) (lo := 10) (hi := 60) rfl rfl
  have b_544 := g_b hG (a := 77) (i := 12) (lo := 0) (hi := 8) rfl rfl
  have b_545 := g_b hG (a := 77) (i := 13) (lo := 0) (hi := 12) rfl rfl
  have z_546 := RS_b q5 (a := a) (by omega)
  refine to_an (pc := 0) rw_225_0 rfl (to_c (pc := 1) rw_225_1 (x := (40 : Int32)) rfl rfl (s_v (pc := 3) rw_225_3 (dp0 hd (by decide)) (ls0 := [.ref 77, .int (40 : Int32)]) rfl (Nat.le_of_ble_eq_true rfl) (Nat.le_of_ble_eq_true rfl) rfl (to_rc rfl rfl rfl (g_o hG rfl)) rfl (to_an (pc := 0) rw_159_0 rfl (tt_gI (pc := 1) rw_159_1 (g_o hG rfl) (v := (M.2.1 77 8)) rfl (to_c (pc := 4) rw_159_4 (x := (4 : Int32)) rfl rfl (b_cne (pc := 5) rw_159_5 (A := (M.2.1 77 8).toInt) (B := 4) rfl rfl (fun h547 => ?_) (fun h547 => ?_)))))))
  · refine to_c (pc := 20) rw_159_20 (x := (0 : Int32)) rfl rfl (s_r1 (pc := 21) rw_159_21 (A := 0) rfl (by decide) (b_ieq_t (pc := 6) rw_225_6 (A := 0) rfl (by decide) (to_an (pc := 60) rw_225_60 rfl (to_c (pc := 61) rw_225_61 (x := (14 : Int32)) rfl rfl (s_v (pc := 63) rw_225_63 (dp0 hd (by decide)) (ls0 := [.ref 77, .int (14 : Int32)]) rfl (Nat.le_of_ble_eq_true rfl) (Nat.le_of_ble_eq_true rfl) rfl (to_rc rfl rfl rfl (g_o hG rfl)) rfl (to_an (pc := 0) rw_158_0 rfl (tt_gI (pc := 1) rw_158_1 (g_o hG rfl) (v := (M.2.1 77 8)) rfl (to_c (pc := 4) rw_158_4 (x := (1 : Int32)) rfl rfl (b_cne (pc := 5) rw_158_5 (A := (M.2.1 77 8).toInt) (B := 1) rfl rfl (fun h548 => ?_) (fun h548 => ?_))))))))))
    · refine to_c (pc := 20) rw_158_20 (x := (0 : Int32)) rfl rfl (s_r1 (pc := 21) rw_158_21 (A := 0) rfl (by decide) (b_ieq_t (pc := 66) rw_225_66 (A := 0) rfl (by decide) (to_an (pc := 104) rw_225_104 rfl (tt_gI (pc := 105) rw_225_105 (g_o hG rfl) (v := (M.2.1 77 8)) rfl (to_c (pc := 108) rw_225_108 (x := (2 : Int32)) rfl rfl (b_ceq (pc := 109) rw_225_109 (A := (M.2.1 77 8).toInt) (B := 2) rfl rfl (fun h549 => ?_) (fun h549 => ?_)))))))
      · have z_550 := RS_2 q5 (a := a) (by (first | (clear h547 h548; omega) | (clear h547; omega) | omega)) (by (first | (clear h547 h548; omega) | (clear h547; omega) | omega))
        refine to_an (pc := 118) rw_225_118 rfl (s_v (pc := 119) rw_225_119 (dp0 hd (by decide)) (ls0 := [.ref 77]) rfl (Nat.le_of_ble_eq_true rfl) (Nat.le_of_ble_eq_true rfl) rfl (to_rc rfl rfl rfl (g_o hG rfl)) rfl (to_an (pc := 0) rw_224_0 rfl (tt_gI (pc := 1) rw_224_1 (g_o hG rfl) (v := (M.2.1 77 69)) rfl (to_c (pc := 4) rw_224_4 (x := (40 : Int32)) rfl rfl (b_cne (pc := 6) rw_224_6 (A := (M.2.1 77 69).toInt) (B := 40) rfl rfl (fun h551 => ?_) (fun h551 => ?_))))))
        · refine to_an (pc := 15) rw_224_15 rfl (to_dupr (pc := 16) rw_224_16 (tt_gI (pc := 17) rw_224_17 (g_o hG rfl) (v := (M.2.1 77 69)) rfl (to_c (pc := 20) rw_224_20 (x := (1 : Int32)) rfl rfl (s_add (pc := 21) rw_224_21 (A := (M.2.1 77 69).toInt) (B := 1) rfl rfl (by (first | (clear h547 h548 h551; omega) | (clear h547 h548; omega) | omega)) (fun v552 e553 => s_pI (pc := 22) rw_224_22 hG rfl (fun M555 W554 => ?_))))))
          have hG556 := g_w hG W554 (A := v552.toInt) rfl (lo := 0) (hi := 40) rfl rfl (by (first | (clear h547 h548 h551; omega) | (clear h547 h548; omega) | omega)) (by decide)
          have F557 := FR.w F0 W554 (show 77 = 77 ∧ (69 = 4 ∨ 69 = 5 ∨ 7 ≤ 69 ∧ 69 ≤ 10) ∨ 77 = 77 ∧ (69 = 59 ∨ 65 ≤ 69 ∧ 69 ≤ 69) ∨ 112 ≤ 77 ∧ 77 ≤ 114 ∧ 40 ≤ 69 ∨ 77 = 115 ∨ 77 = 116 by decide)
          refine to_c (pc := 25) rw_224_25 (x := (1 : Int32)) rfl rfl (s_r1 (pc := 26) rw_224_26 (A := 1) rfl (by decide) (b_ine_t (pc := 122) rw_225_122 (A := 1) rfl (by decide) ?_))
          have c_558 : M555.2.1 77 59 = (M.2.1 77 59) := (W_n W554 (by decide) rfl)
          have t_559 : (M555.2.1 77 59).toInt = (M.2.1 77 59).toInt := congrArg Int32.toInt c_558
          have c_560 : M555.2.1 77 65 = (M.2.1 77 65) := (W_n W554 (by decide) rfl)
          have t_561 : (M555.2.1 77 65).toInt = (M.2.1 77 65).toInt := congrArg Int32.toInt c_560
          have c_562 : M555.2.1 77 66 = (M.2.1 77 66) := (W_n W554 (by decide) rfl)
          have t_563 : (M555.2.1 77 66).toInt = (M.2.1 77 66).toInt := congrArg Int32.toInt c_562
          have c_564 : M555.2.1 77 67 = (M.2.1 77 67) := (W_n W554 (by decide) rfl)
          have t_565 : (M555.2.1 77 67).toInt = (M.2.1 77 67).toInt := congrArg Int32.toInt c_564
          have c_566 : M555.2.1 77 68 = (M.2.1 77 68) := (W_n W554 (by decide) rfl)
          have t_567 : (M555.2.1 77 68).toInt = (M.2.1 77 68).toInt := congrArg Int32.toInt c_566
          have c_568 : M555.2.1 77 69 = v552 := (W_e W554)
          have t_569 : (M555.2.1 77 69).toInt = v552.toInt := congrArg Int32.toInt c_568
          have s_571 := Wx_f (M := M) (M1 := M555) ((M.2.1 77 65).toInt).toNat (fun i z => (W_n W554 (fun e => absurd e.1 (by decide)) rfl))
          have j_570 : QK M555 := QK_i (by unfold QK_c; rw [show ((M555.2.1 77 65).toInt).toNat = ((M.2.1 77 65).toInt).toNat by (first | (clear h547 h548 h551; omega) | (clear h547 h548; omega) | omega)]; refine ⟨by (first | (clear h547 h548 h551; omega) | (clear h547 h548; omega) | omega), by (first | (clear h547 h548 h551; omega) | (clear h547 h548; omega) | omega), by (first | (clear h547 h548 h551; omega) | (clear h547 h548; omega) | omega), by (first | (clear h547 h548 h551; omega) | (clear h547 h548; omega) | omega)⟩) (fun i z => by rw [(W_n W554 (fun e => absurd e.1 (by decide)) rfl)]; exact q2.2.1 i (by (first | (clear h547 h548 h551; omega) | (clear h547 h548; omega) | omega))) (by rw [(W_n W554 (by decide) rfl)]; exact KN_f (fun a i z => (W_n W554 (hzc_1 a i z) rfl)) q2.2.2)
          have c_572 : M555.2.1 77 7 = (M.2.1 77 7) := (W_n W554 (by decide) rfl)
          have t_573 : (M555.2.1 77 7).toInt = (M.2.1 77 7).toInt := congrArg Int32.toInt c_572
          have c_574 : M555.2.1 77 6 = (M.2.1 77 6) := (W_n W554 (by decide) rfl)
          have t_575 : (M555.2.1 77 6).toInt = (M.2.1 77 6).toInt := congrArg Int32.toInt c_574
          have j_576 := (FA_f (fun a i z => W_n W554 (th_21 a i z) rfl) q3)
          have j_577 := (RS_f (fun a i z => W_n W554 (th_22 a i z) rfl) q5)
          have c_578 : M555.2.1 77 10 = (M.2.1 77 10) := (W_n W554 (by decide) rfl)
          have t_579 : (M555.2.1 77 10).toInt = (M.2.1 77 10).toInt := congrArg Int32.toInt c_578
          have j_580 := (TR_f (fun a i z => W_n W554 (th_23 a i z) rfl) q9)
          have j_581 := (W9_f (fun a i z => W_n W554 (th_24 a i z) rfl) q10)
          have j_582 := (PLk_f (fun a i z => W_n W554 (th_25 a i z) rfl) q11)
          have c_583 : M555.2.1 77 8 = (M.2.1 77 8) := (W_n W554 (by decide) rfl)
          have t_584 : (M555.2.1 77 8).toInt = (M.2.1 77 8).toInt := congrArg Int32.toInt c_583
          have c_585 : M555.2.1 77 9 = (M.2.1 77 9) := (W_n W554 (by decide) rfl)
          have t_586 : (M555.2.1 77 9).toInt = (M.2.1 77 9).toInt := congrArg Int32.toInt c_585
          exact (U_225_0 (t := t) (nn := nn) (a := a) (sg := sg) hX hd q1 q2 q3 q4 q5 q6 q7 q8 q9 q10 q11 q12 h ((0 : Int).toNat + 1)) M555 (.null) (.null) (.null) (.null) (.null) hG556 F557 (by rw [show ((M555.2.1 77 65).toInt).toNat = ((M.2.1 77 65).toInt).toNat by (first | (clear h547 h548 h551; omega) | (clear h547 h548; omega) | omega)]; (first | (clear h547 h548 h551; omega) | (clear h547 h548; omega) | omega)) j_570 (by (first | (clear h547 h548 h551; omega) | (clear h547 h548; omega) | omega)) (by (first | (clear h547 h548 h551; omega) | (clear h547 h548; omega) | omega)) j_576 (by (first | (clear h547 h548 h551; omega) | (clear h547 h548; omega) | omega)) j_577 (by (first | (clear h547 h548 h551; omega) | (clear h547 h548; omega) | omega)) j_580 j_581 j_582 (by (first | (clear h547 h548 h551; omega) | (clear h547 h548; omega) | omega)) (by (first | (clear h547 h548 h551; omega) | (clear h547 h548; omega) | omega)) (by (first | (clear h547 h548 h551; omega) | (clear h547 h548; omega) | omega)) (by (first | (clear h547 h548 h551; omega) | (clear h547 h548; omega) | omega)) (by (first | (clear h547 h548 h551; omega) | (clear h547 h548; omega) | omega)) (by (first | (clear h547 h548 h551; omega) | (clear h547 h548; omega) | omega)) (by (first | (clear h547 h548 h551; omega) | (clear h547 h548; omega) | omega)) (by (first | (clear h547 h548 h551; omega) | (clear h547 h548; omega) | omega))
        · refine to_an (pc := 9) rw_224_9 rfl (to_c (pc := 10) rw_224_10 (x := (2 : Int32)) rfl rfl (s_v (pc := 11) rw_224_11 (dp1 hd (by decide)) (ls0 := [.ref 77, .int (2 : Int32)]) rfl (Nat.le_of_ble_eq_true rfl) (Nat.le_of_ble_eq_true rfl) rfl (to_rc rfl rfl rfl (g_o hG rfl)) rfl (to_an (pc := 0) rw_152_0 rfl (to_in (pc := 1) rw_152_1 rfl (s_pI (pc := 2) rw_152_2 hG rfl (fun M588 W587 => ?_))))))
          have hG589 := g_wf hG W587 rfl rfl (by decide)
          have F590 := FR.w F0 W587 (show 77 = 77 ∧ (4 = 4 ∨ 4 = 5 ∨ 7 ≤ 4 ∧ 4 ≤ 10) ∨ 77 = 77 ∧ (4 = 59 ∨ 65 ≤ 4 ∧ 4 ≤ 69) ∨ 112 ≤ 77 ∧ 77 ≤ 114 ∧ 40 ≤ 4 ∨ 77 = 115 ∨ 77 = 116 by decide)
          refine to_an (pc := 5) rw_152_5 rfl (to_an (pc := 6) rw_152_6 rfl ?_)
          have c_591 : M588.2.1 77 10 = (M.2.1 77 10) := (W_n W587 (by decide) rfl)
          refine tt_gI (pc := 7) rw_152_7 (g_o hG589 rfl) (v := (M.2.1 77 10)) c_591 (s_pI (pc := 10) rw_152_10 hG589 rfl (fun M593 W592 => ?_))
          have hG594 := g_wf hG589 W592 rfl rfl (by decide)
          have F595 := FR.w F590 W592 (show 77 = 77 ∧ (5 = 4 ∨ 5 = 5 ∨ 7 ≤ 5 ∧ 5 ≤ 10) ∨ 77 = 77 ∧ (5 = 59 ∨ 65 ≤ 5 ∧ 5 ≤ 69) ∨ 112 ≤ 77 ∧ 77 ≤ 114 ∧ 40 ≤ 5 ∨ 77 = 115 ∨ 77 = 116 by decide)
          refine to_c (pc := 13) rw_152_13 (x := (0 : Int32)) rfl rfl (s_r1 (pc := 14) rw_152_14 (A := 0) rfl (by decide) (s_r1 (pc := 14) rw_224_14 (A := 0) rfl (by decide) (b_ine_f (pc := 122) rw_225_122 (A := 0) rfl (by decide) (to_c (pc := 125) rw_225_125 (x := (0 : Int32)) rfl rfl (s_r1 (pc := 126) rw_225_126 (A := 0) rfl (by decide) ?_)))))
          have k_596 : (0 : Int32).toInt = 0 := rfl
          have c_597 : M593.2.1 77 7 = (M.2.1 77 7) := (W_n W592 (by decide) (W_n W587 (by decide) rfl))
          have t_598 : (M593.2.1 77 7).toInt = (M.2.1 77 7).toInt := congrArg Int32.toInt c_597
          have c_599 : M593.2.1 77 6 = (M.2.1 77 6) := (W_n W592 (by decide) (W_n W587 (by decide) rfl))
          have t_600 : (M593.2.1 77 6).toInt = (M.2.1 77 6).toInt := congrArg Int32.toInt c_599
          have c_601 : M593.2.1 77 4 = (2 : Int32) := (W_n W592 (by decide) (W_e W587))
          have k_602 : (2 : Int32).toInt = 2 := rfl
          have t_603 : (M593.2.1 77 4).toInt = (2 : Int32).toInt := congrArg Int32.toInt c_601
          have c_604 : M593.2.1 77 5 = (M.2.1 77 10) := (W_e W592)
          have t_605 : (M593.2.1 77 5).toInt = (M.2.1 77 10).toInt := congrArg Int32.toInt c_604
          have c_606 : M593.2.1 77 67 = (M.2.1 77 67) := (W_n W592 (by decide) (W_n W587 (by decide) rfl))
          have t_607 : (M593.2.1 77 67).toInt = (M.2.1 77 67).toInt := congrArg Int32.toInt c_606
          have c_608 : M593.2.1 77 69 = (M.2.1 77 69) := (W_n W592 (by decide) (W_n W587 (by decide) rfl))
          have t_609 : (M593.2.1 77 69).toInt = (M.2.1 77 69).toInt := congrArg Int32.toInt c_608
          exact h (0 : Int32) M593 hG594 F595 (by decide) (by decide) (by (first | (clear h547 h548; omega) | (clear h547; omega) | omega)) (by (first | (clear h547 h548; omega) | (clear h547; omega) | omega)) (fun z => absurd z (by decide)) (by (first | (clear h547 h548; omega) | (clear h547; omega) | omega)) (fun z => absurd z (by (first | (clear h547 h548; omega) | (clear h547; omega) | omega))) (fun z => absurd z (by decide)) (fun z => absurd z (by decide)) (fun z => absurd z (by decide)) (fun _ => inl_e (by (first | (clear h547 h548; omega) | (clear h547; omega) | omega)) (by (first | (clear h547 h548; omega) | (clear h547; omega) | omega)) (q_nmx (by (first | (clear h547 h548; omega) | (clear h547; omega) | omega)) (by (first | (clear h547 h548; omega) | (clear h547; omega) | omega)) (by (first | (clear h547 h548; omega) | (clear h547; omega) | omega)) (by (first | (clear h547 h548; omega) | (clear h547; omega) | omega))))
      · refine to_an (pc := 112) rw_225_112 rfl (to_c (pc := 113) rw_225_113 (x := (1 : Int32)) rfl rfl (s_v (pc := 114) rw_225_114 (dp0 hd (by decide)) (ls0 := [.ref 77, .int (1 : Int32)]) rfl (Nat.le_of_ble_eq_true rfl) (Nat.le_of_ble_eq_true rfl) rfl (to_rc rfl rfl rfl (g_o hG rfl)) rfl (to_an (pc := 0) rw_152_0 rfl (to_in (pc := 1) rw_152_1 rfl (s_pI (pc := 2) rw_152_2 hG rfl (fun M611 W610 => ?_))))))
        have hG612 := g_wf hG W610 rfl rfl (by decide)
        have F613 := FR.w F0 W610 (show 77 = 77 ∧ (4 = 4 ∨ 4 = 5 ∨ 7 ≤ 4 ∧ 4 ≤ 10) ∨ 77 = 77 ∧ (4 = 59 ∨ 65 ≤ 4 ∧ 4 ≤ 69) ∨ 112 ≤ 77 ∧ 77 ≤ 114 ∧ 40 ≤ 4 ∨ 77 = 115 ∨ 77 = 116 by decide)
        refine to_an (pc := 5) rw_152_5 rfl (to_an (pc := 6) rw_152_6 rfl ?_)
        have c_614 : M611.2.1 77 10 = (M.2.1 77 10) := (W_n W610 (by decide) rfl)
        refine tt_gI (pc := 7) rw_152_7 (g_o hG612 rfl) (v := (M.2.1 77 10)) c_614 (s_pI (pc := 10) rw_152_10 hG612 rfl (fun M616 W615 => ?_))
        have hG617 := g_wf hG612 W615 rfl rfl (by decide)
        have F618 := FR.w F613 W615 (show 77 = 77 ∧ (5 = 4 ∨ 5 = 5 ∨ 7 ≤ 5 ∧ 5 ≤ 10) ∨ 77 = 77 ∧ (5 = 59 ∨ 65 ≤ 5 ∧ 5 ≤ 69) ∨ 112 ≤ 77 ∧ 77 ≤ 114 ∧ 40 ≤ 5 ∨ 77 = 115 ∨ 77 = 116 by decide)
        refine to_c (pc := 13) rw_152_13 (x := (0 : Int32)) rfl rfl (s_r1 (pc := 14) rw_152_14 (A := 0) rfl (by decide) (s_r1 (pc := 117) rw_225_117 (A := 0) rfl (by decide) ?_))
        have k_619 : (0 : Int32).toInt = 0 := rfl
        have c_620 : M616.2.1 77 7 = (M.2.1 77 7) := (W_n W615 (by decide) (W_n W610 (by decide) rfl))
        have t_621 : (M616.2.1 77 7).toInt = (M.2.1 77 7).toInt := congrArg Int32.toInt c_620
        have c_622 : M616.2.1 77 6 = (M.2.1 77 6) := (W_n W615 (by decide) (W_n W610 (by decide) rfl))
        have t_623 : (M616.2.1 77 6).toInt = (M.2.1 77 6).toInt := congrArg Int32.toInt c_622
        have c_624 : M616.2.1 77 4 = (1 : Int32) := (W_n W615 (by decide) (W_e W610))
        have k_625 : (1 : Int32).toInt = 1 := rfl
        have t_626 : (M616.2.1 77 4).toInt = (1 : Int32).toInt := congrArg Int32.toInt c_624
        have c_627 : M616.2.1 77 5 = (M.2.1 77 10) := (W_e W615)
        have t_628 : (M616.2.1 77 5).toInt = (M.2.1 77 10).toInt := congrArg Int32.toInt c_627
        have c_629 : M616.2.1 77 67 = (M.2.1 77 67) := (W_n W615 (by decide) (W_n W610 (by decide) rfl))
        have t_630 : (M616.2.1 77 67).toInt = (M.2.1 77 67).toInt := congrArg Int32.toInt c_629
        have c_631 : M616.2.1 77 69 = (M.2.1 77 69) := (W_n W615 (by decide) (W_n W610 (by decide) rfl))
        have t_632 : (M616.2.1 77 69).toInt = (M.2.1 77 69).toInt := congrArg Int32.toInt c_631
        exact h (0 : Int32) M616 hG617 F618 (by decide) (by decide) (by (first | (clear h547 h548 h549; omega) | (clear h547 h548; omega) | omega)) (by (first | (clear h547 h548 h549; omega) | (clear h547 h548; omega) | omega)) (fun z => absurd z (by decide)) (by (first | (clear h547 h548 h549; omega) | (clear h547 h548; omega) | omega)) (fun z => absurd z (by (first | (clear h547 h548 h549; omega) | (clear h547 h548; omega) | omega))) (fun z => absurd z (by decide)) (fun z => absurd z (by decide)) (fun z => absurd z (by decide)) (fun _ => inl_e (by (first | (clear h547 h548 h549; omega) | (clear h547 h548; omega) | omega)) (by (first | (clear h547 h548 h549; omega) | (clear h547 h548; omega) | omega)) (q_0x (by (first | (clear h547 h548 h549; omega) | (clear h547 h548; omega) | omega)) (by (first | (clear h547 h548 h549; omega) | (clear h547 h548; omega) | omega)) (by (first | (clear h547 h548 h549; omega) | (clear h547 h548; omega) | omega)) (by (first | (clear h547 h548 h549; omega) | (clear h547 h548; omega) | omega)) (by (first | (clear h547 h548 h549; omega) | (clear h547 h548; omega) | omega))))
    · refine to_an (pc := 8) rw_158_8 rfl (tt_gI (pc := 9) rw_158_9 (g_o hG rfl) (v := (M.2.1 77 9)) rfl (to_in (pc := 12) rw_158_12 rfl (b_cne (pc := 13) rw_158_13 (A := (M.2.1 77 9).toInt) (B := 14) rfl rfl (fun h633 => ?_) (fun h633 => ?_))))
      · refine to_c (pc := 20) rw_158_20 (x := (0 : Int32)) rfl rfl (s_r1 (pc := 21) rw_158_21 (A := 0) rfl (by decide) (b_ieq_t (pc := 66) rw_225_66 (A := 0) rfl (by decide) ?_))
        have z_634 := RS_1 q5 (a := a) (by (first | (clear h547 h633; omega) | (clear h547; omega) | omega)) (by (first | (clear h547 h633; omega) | (clear h547; omega) | omega))
        refine to_an (pc := 104) rw_225_104 rfl (tt_gI (pc := 105) rw_225_105 (g_o hG rfl) (v := (M.2.1 77 8)) rfl (to_c (pc := 108) rw_225_108 (x := (2 : Int32)) rfl rfl (b_ceq_f (pc := 109) rw_225_109 (A := (M.2.1 77 8).toInt) (B := 2) rfl rfl (by (first | (clear h547 h633; omega) | (clear h547; omega) | omega)) (to_an (pc := 112) rw_225_112 rfl (to_c (pc := 113) rw_225_113 (x := (1 : Int32)) rfl rfl (s_v (pc := 114) rw_225_114 (dp0 hd (by decide)) (ls0 := [.ref 77, .int (1 : Int32)]) rfl (Nat.le_of_ble_eq_true rfl) (Nat.le_of_ble_eq_true rfl) rfl (to_rc rfl rfl rfl (g_o hG rfl)) rfl (to_an (pc := 0) rw_152_0 rfl (to_in (pc := 1) rw_152_1 rfl (s_pI (pc := 2) rw_152_2 hG rfl (fun M636 W635 => ?_))))))))))
        have hG637 := g_wf hG W635 rfl rfl (by decide)
        have F638 := FR.w F0 W635 (show 77 = 77 ∧ (4 = 4 ∨ 4 = 5 ∨ 7 ≤ 4 ∧ 4 ≤ 10) ∨ 77 = 77 ∧ (4 = 59 ∨ 65 ≤ 4 ∧ 4 ≤ 69) ∨ 112 ≤ 77 ∧ 77 ≤ 114 ∧ 40 ≤ 4 ∨ 77 = 115 ∨ 77 = 116 by decide)
        refine to_an (pc := 5) rw_152_5 rfl (to_an (pc := 6) rw_152_6 rfl ?_)
        have c_639 : M636.2.1 77 10 = (M.2.1 77 10) := (W_n W635 (by decide) rfl)
        refine tt_gI (pc := 7) rw_152_7 (g_o hG637 rfl) (v := (M.2.1 77 10)) c_639 (s_pI (pc := 10) rw_152_10 hG637 rfl (fun M641 W640 => ?_))
        have hG642 := g_wf hG637 W640 rfl rfl (by decide)
        have F643 := FR.w F638 W640 (show 77 = 77 ∧ (5 = 4 ∨ 5 = 5 ∨ 7 ≤ 5 ∧ 5 ≤ 10) ∨ 77 = 77 ∧ (5 = 59 ∨ 65 ≤ 5 ∧ 5 ≤ 69) ∨ 112 ≤ 77 ∧ 77 ≤ 114 ∧ 40 ≤ 5 ∨ 77 = 115 ∨ 77 = 116 by decide)
        refine to_c (pc := 13) rw_152_13 (x := (0 : Int32)) rfl rfl (s_r1 (pc := 14) rw_152_14 (A := 0) rfl (by decide) (s_r1 (pc := 117) rw_225_117 (A := 0) rfl (by decide) ?_))
        have k_644 : (0 : Int32).toInt = 0 := rfl
        have c_645 : M641.2.1 77 7 = (M.2.1 77 7) := (W_n W640 (by decide) (W_n W635 (by decide) rfl))
        have t_646 : (M641.2.1 77 7).toInt = (M.2.1 77 7).toInt := congrArg Int32.toInt c_645
        have c_647 : M641.2.1 77 6 = (M.2.1 77 6) := (W_n W640 (by decide) (W_n W635 (by decide) rfl))
        have t_648 : (M641.2.1 77 6).toInt = (M.2.1 77 6).toInt := congrArg Int32.toInt c_647
        have c_649 : M641.2.1 77 4 = (1 : Int32) := (W_n W640 (by decide) (W_e W635))
        have k_650 : (1 : Int32).toInt = 1 := rfl
        have t_651 : (M641.2.1 77 4).toInt = (1 : Int32).toInt := congrArg Int32.toInt c_649
        have c_652 : M641.2.1 77 5 = (M.2.1 77 10) := (W_e W640)
        have t_653 : (M641.2.1 77 5).toInt = (M.2.1 77 10).toInt := congrArg Int32.toInt c_652
        have c_654 : M641.2.1 77 67 = (M.2.1 77 67) := (W_n W640 (by decide) (W_n W635 (by decide) rfl))
        have t_655 : (M641.2.1 77 67).toInt = (M.2.1 77 67).toInt := congrArg Int32.toInt c_654
        have c_656 : M641.2.1 77 69 = (M.2.1 77 69) := (W_n W640 (by decide) (W_n W635 (by decide) rfl))
        have t_657 : (M641.2.1 77 69).toInt = (M.2.1 77 69).toInt := congrArg Int32.toInt c_656
        exact h (0 : Int32) M641 hG642 F643 (by decide) (by decide) (by (first | (clear h547 h633; omega) | (clear h547; omega) | omega)) (by (first | (clear h547 h633; omega) | (clear h547; omega) | omega)) (fun z => absurd z (by decide)) (by (first | (clear h547 h633; omega) | (clear h547; omega) | omega)) (fun z => absurd z (by (first | (clear h547 h633; omega) | (clear h547; omega) | omega))) (fun z => absurd z (by decide)) (fun z => absurd z (by decide)) (fun z => absurd z (by decide)) (fun _ => inl_e (by (first | (clear h547 h633; omega) | (clear h547; omega) | omega)) (by (first | (clear h547 h633; omega) | (clear h547; omega) | omega)) (q_0x (by (first | (clear h547 h633; omega) | (clear h547; omega) | omega)) (by (first | (clear h547 h633; omega) | (clear h547; omega) | omega)) (by (first | (clear h547 h633; omega) | (clear h547; omega) | omega)) (by (first | (clear h547 h633; omega) | (clear h547; omega) | omega)) (by (first | (clear h547 h633; omega) | (clear h547; omega) | omega))))
      · refine to_c (pc := 16) rw_158_16 (x := (1 : Int32)) rfl rfl (to_go (pc := 17) rw_158_17 (s_r1 (pc := 21) rw_158_21 (A := 1) rfl (by decide) (b_ieq_f (pc := 66) rw_225_66 (A := 1) rfl (by decide) ?_)))
        have z_658 := RS_1 q5 (a := a) (by (first | (clear h547; omega) | omega)) (by (first | (clear h547; omega) | omega))
        refine to_an (pc := 69) rw_225_69 rfl (s_v (pc := 70) rw_225_70 (dp0 hd (by decide)) (ls0 := [.ref 77]) rfl (Nat.le_of_ble_eq_true rfl) (Nat.le_of_ble_eq_true rfl) rfl (to_rc rfl rfl rfl (g_o hG rfl)) rfl (to_an (pc := 0) rw_224_0 rfl (tt_gI (pc := 1) rw_224_1 (g_o hG rfl) (v := (M.2.1 77 69)) rfl (to_c (pc := 4) rw_224_4 (x := (40 : Int32)) rfl rfl (b_cne (pc := 6) rw_224_6 (A := (M.2.1 77 69).toInt) (B := 40) rfl rfl (fun h659 => ?_) (fun h659 => ?_))))))
        · refine to_an (pc := 15) rw_224_15 rfl (to_dupr (pc := 16) rw_224_16 (tt_gI (pc := 17) rw_224_17 (g_o hG rfl) (v := (M.2.1 77 69)) rfl (to_c (pc := 20) rw_224_20 (x := (1 : Int32)) rfl rfl (s_add (pc := 21) rw_224_21 (A := (M.2.1 77 69).toInt) (B := 1) rfl rfl (by (first | (clear h547 h659; omega) | (clear h547; omega) | omega)) (fun v660 e661 => s_pI (pc := 22) rw_224_22 hG rfl (fun M663 W662 => ?_))))))
          have hG664 := g_w hG W662 (A := v660.toInt) rfl (lo := 0) (hi := 40) rfl rfl (by (first | (clear h547 h659; omega) | (clear h547; omega) | omega)) (by decide)
          have F665 := FR.w F0 W662 (show 77 = 77 ∧ (69 = 4 ∨ 69 = 5 ∨ 7 ≤ 69 ∧ 69 ≤ 10) ∨ 77 = 77 ∧ (69 = 59 ∨ 65 ≤ 69 ∧ 69 ≤ 69) ∨ 112 ≤ 77 ∧ 77 ≤ 114 ∧ 40 ≤ 69 ∨ 77 = 115 ∨ 77 = 116 by decide)
          refine to_c (pc := 25) rw_224_25 (x := (1 : Int32)) rfl rfl (s_r1 (pc := 26) rw_224_26 (A := 1) rfl (by decide) (b_ine_t (pc := 73) rw_225_73 (A := 1) rfl (by decide) (to_an (pc := 78) rw_225_78 rfl (s_gR (pc := 79) rw_225_79 hG664 rfl (v := 115) rfl (to_an (pc := 82) rw_225_82 rfl ?_)))))
          have c_666 : M663.2.1 77 65 = (M.2.1 77 65) := (W_n W662 (by decide) rfl)
          refine tt_gI (pc := 83) rw_225_83 (g_o hG664 rfl) (v := (M.2.1 77 65)) c_666 (to_c (pc := 86) rw_225_86 (x := (2 : Int32)) rfl rfl (s_ias (pc := 87) rw_225_87 hG664 rfl (n := 64) rfl (A := (M.2.1 77 65).toInt) rfl (by (first | (clear h547 h659; omega) | (clear h547; omega) | omega)) (by (first | (clear h547 h659; omega) | (clear h547; omega) | omega)) (fun M668 W667 => ?_)))
          have hG669 := g_w hG664 W667 (A := 2) rfl (lo := 0) (hi := 4) rfl rfl (by (first | (clear h547 h659; omega) | (clear h547; omega) | omega)) (by decide)
          have F670 := FR.w F665 W667 (show 115 = 77 ∧ (((M.2.1 77 65).toInt).toNat = 4 ∨ ((M.2.1 77 65).toInt).toNat = 5 ∨ 7 ≤ ((M.2.1 77 65).toInt).toNat ∧ ((M.2.1 77 65).toInt).toNat ≤ 10) ∨ 115 = 77 ∧ (((M.2.1 77 65).toInt).toNat = 59 ∨ 65 ≤ ((M.2.1 77 65).toInt).toNat ∧ ((M.2.1 77 65).toInt).toNat ≤ 69) ∨ 112 ≤ 115 ∧ 115 ≤ 114 ∧ 40 ≤ ((M.2.1 77 65).toInt).toNat ∨ 115 = 115 ∨ 115 = 116 by (first | (clear h547 h659; omega) | (clear h547; omega) | omega))
          refine to_an (pc := 88) rw_225_88 rfl (to_dupr (pc := 89) rw_225_89 ?_)
          have c_671 : M668.2.1 77 65 = (M.2.1 77 65) := (W_n W667 (fun z => absurd z.1 (by decide)) c_666)
          refine tt_gI (pc := 90) rw_225_90 (g_o hG669 rfl) (v := (M.2.1 77 65)) c_671 (to_c (pc := 93) rw_225_93 (x := (1 : Int32)) rfl rfl (s_add (pc := 94) rw_225_94 (A := (M.2.1 77 65).toInt) (B := 1) rfl rfl (by (first | (clear h547 h659; omega) | (clear h547; omega) | omega)) (fun v672 e673 => s_pI (pc := 95) rw_225_95 hG669 rfl (fun M675 W674 => ?_))))
          have hG676 := g_w hG669 W674 (A := v672.toInt) rfl (lo := 0) (hi := 48) rfl rfl (by (first | (clear h547 h659; omega) | (clear h547; omega) | omega)) (by decide)
          have F677 := FR.w F670 W674 (show 77 = 77 ∧ (65 = 4 ∨ 65 = 5 ∨ 7 ≤ 65 ∧ 65 ≤ 10) ∨ 77 = 77 ∧ (65 = 59 ∨ 65 ≤ 65 ∧ 65 ≤ 69) ∨ 112 ≤ 77 ∧ 77 ≤ 114 ∧ 40 ≤ 65 ∨ 77 = 115 ∨ 77 = 116 by decide)
          refine to_an (pc := 98) rw_225_98 rfl (s_v (pc := 99) rw_225_99 (dp0 hd (by decide)) (ls0 := [.ref 77]) rfl (Nat.le_of_ble_eq_true rfl) (Nat.le_of_ble_eq_true rfl) rfl (to_rc rfl rfl rfl (g_o hG676 rfl)) rfl ?_)
          have c_678 : M675.2.1 77 7 = (M.2.1 77 7) := (W_n W674 (by decide) (W_n W667 (fun z => absurd z.1 (by decide)) (W_n W662 (by decide) rfl)))
          have t_679 : (M675.2.1 77 7).toInt = (M.2.1 77 7).toInt := congrArg Int32.toInt c_678
          have c_680 : M675.2.1 77 6 = (M.2.1 77 6) := (W_n W674 (by decide) (W_n W667 (fun z => absurd z.1 (by decide)) (W_n W662 (by decide) rfl)))
          have t_681 : (M675.2.1 77 6).toInt = (M.2.1 77 6).toInt := congrArg Int32.toInt c_680
          have c_682 : M675.2.1 77 10 = (M.2.1 77 10) := (W_n W674 (by decide) (W_n W667 (fun z => absurd z.1 (by decide)) (W_n W662 (by decide) rfl)))
          have t_683 : (M675.2.1 77 10).toInt = (M.2.1 77 10).toInt := congrArg Int32.toInt c_682
          have j_684 := (RS_f (fun a i z => W_n W674 (th_26 a i z) rfl) (RS_f (fun a i z => W_n W667 (th_27 a i _ z) rfl) (RS_f (fun a i z => W_n W662 (th_22 a i z) rfl) q5)))
          have z_685 := RS_b j_684 (a := a) (by (first | (clear h547 h659; omega) | (clear h547; omega) | omega))
          have j_686 := (TR_f (fun a i z => W_n W674 (th_28 a i z) rfl) (TR_f (fun a i z => W_n W667 (th_29 a i _ z) rfl) (TR_f (fun a i z => W_n W662 (th_23 a i z) rfl) q9)))
          have j_687 := (W9_f (fun a i z => W_n W674 (th_30 a i z) rfl) (W9_f (fun a i z => W_n W667 (th_31 a i _ z) rfl) (W9_f (fun a i z => W_n W662 (th_24 a i z) rfl) q10)))
          refine E_156 hX (dp1 hd (by decide)) hG676 (by (first | (clear h547 h659; omega) | (clear h547; omega) | omega)) (by (first | (clear h547 h659; omega) | (clear h547; omega) | omega)) (by (first | (clear h547 h659; omega) | (clear h547; omega) | omega)) (by (first | (clear h547 h659; omega) | (clear h547; omega) | omega)) j_686 j_687  (fun M694 hG689 F688 p_690 p_691 p_692 p_693 => ?_)
          have F695 := FR.c F677 F688 th_13
          have b_696 := g_b hG689 (a := 77) (i := 7) (lo := 0) (hi := 500) rfl rfl
          have c_697 : M694.2.1 77 6 = (M.2.1 77 6) := (F_n F688 (show ¬ (77 = 77 ∧ 7 ≤ 6 ∧ 6 ≤ 10) by decide) c_680)
          have t_698 : (M694.2.1 77 6).toInt = (M.2.1 77 6).toInt := congrArg Int32.toInt c_697
          have b_699 := g_b hG689 (a := 77) (i := 8) (lo := 0) (hi := 5) rfl rfl
          have b_700 := g_b hG689 (a := 77) (i := 10) (lo := 0) (hi := 500) rfl rfl
          have z_701 := RS_s p_693.2 (a := a) (by (first | (clear h547 h659 p_692; omega) | (clear h547 p_692; omega) | omega))
          refine to_c (pc := 102) rw_225_102 (x := (1 : Int32)) rfl rfl (s_r1 (pc := 103) rw_225_103 (A := 1) rfl (by decide) ?_)
          have k_702 : (1 : Int32).toInt = 1 := rfl
          have c_703 : M694.2.1 77 59 = (M.2.1 77 59) := (F_n F688 (show ¬ (77 = 77 ∧ 7 ≤ 59 ∧ 59 ≤ 10) by decide) (W_n W674 (by decide) (W_n W667 (fun z => absurd z.1 (by decide)) (W_n W662 (by decide) rfl))))
          have t_704 : (M694.2.1 77 59).toInt = (M.2.1 77 59).toInt := congrArg Int32.toInt c_703
          have c_705 : M694.2.1 77 65 = v672 := (F_n F688 (show ¬ (77 = 77 ∧ 7 ≤ 65 ∧ 65 ≤ 10) by decide) (W_e W674))
          have t_706 : (M694.2.1 77 65).toInt = v672.toInt := congrArg Int32.toInt c_705
          have c_707 : M694.2.1 77 66 = (M.2.1 77 66) := (F_n F688 (show ¬ (77 = 77 ∧ 7 ≤ 66 ∧ 66 ≤ 10) by decide) (W_n W674 (by decide) (W_n W667 (fun z => absurd z.1 (by decide)) (W_n W662 (by decide) rfl))))
          have t_708 : (M694.2.1 77 66).toInt = (M.2.1 77 66).toInt := congrArg Int32.toInt c_707
          have c_709 : M694.2.1 77 67 = (M.2.1 77 67) := (F_n F688 (show ¬ (77 = 77 ∧ 7 ≤ 67 ∧ 67 ≤ 10) by decide) (W_n W674 (by decide) (W_n W667 (fun z => absurd z.1 (by decide)) (W_n W662 (by decide) rfl))))
          have t_710 : (M694.2.1 77 67).toInt = (M.2.1 77 67).toInt := congrArg Int32.toInt c_709
          have c_711 : M694.2.1 77 68 = (M.2.1 77 68) := (F_n F688 (show ¬ (77 = 77 ∧ 7 ≤ 68 ∧ 68 ≤ 10) by decide) (W_n W674 (by decide) (W_n W667 (fun z => absurd z.1 (by decide)) (W_n W662 (by decide) rfl))))
          have t_712 : (M694.2.1 77 68).toInt = (M.2.1 77 68).toInt := congrArg Int32.toInt c_711
          have c_713 : M694.2.1 77 69 = v660 := (F_n F688 (show ¬ (77 = 77 ∧ 7 ≤ 69 ∧ 69 ≤ 10) by decide) (W_n W674 (by decide) (W_n W667 (fun z => absurd z.1 (by decide)) (W_e W662))))
          have t_714 : (M694.2.1 77 69).toInt = v660.toInt := congrArg Int32.toInt c_713
          have k_716 : (2 : Int32).toInt = 2 := rfl
          have s_717 := Wx_f (M := M) (M1 := M694) ((M.2.1 77 65).toInt).toNat (fun i z => (F_n F688 (hzc_5 i) (W_n W674 (fun e => absurd e.1 (by decide)) (W_n W667 (by omega) (W_n W662 (fun e => absurd e.1 (by decide)) rfl)))))
          have s_718 : (M694.2.1 115 ((M.2.1 77 65).toInt).toNat).toInt = (2 : Int32).toInt := by rw [show ((M.2.1 77 65).toInt).toNat = ((M.2.1 77 65).toInt).toNat by (first | (clear h547 h659 p_692; omega) | (clear h547 p_692; omega) | omega)]; exact congrArg Int32.toInt (F_n F688 (show ¬ (115 = 77 ∧ 7 ≤ (((M.2.1 77 65).toInt).toNat) ∧ (((M.2.1 77 65).toInt).toNat) ≤ 10) by (first | (clear h547 h659 p_692; omega) | (clear h547 p_692; omega) | omega)) (W_n W674 (by (first | (clear h547 h659 p_692; omega) | (clear h547 p_692; omega) | omega)) (W_e W667)))
          have s_719 := Wx_s M694 ((M.2.1 77 65).toInt).toNat
          have j_715 : QK M694 := QK_i (by unfold QK_c; rw [show ((M694.2.1 77 65).toInt).toNat = ((M.2.1 77 65).toInt).toNat + 1 by (first | (clear h547 h659 p_692 s_719; omega) | (clear h547 p_692 s_719; omega) | omega)]; refine ⟨by (first | (clear h547 h659 p_692 s_719; omega) | (clear h547 p_692 s_719; omega) | omega), by (first | (clear h547 h659 p_692 s_719; omega) | (clear h547 p_692 s_719; omega) | omega), by (first | (clear h547 h659 p_692 s_719; omega) | (clear h547 p_692 s_719; omega) | omega), by (first | (clear h547 h659 p_692 s_719; omega) | (clear h547 p_692 s_719; omega) | omega)⟩) (fun i z => by
              by_cases ei : i = ((M.2.1 77 65).toInt).toNat
              · rw [ei]; omega
              · rw [(F_n F688 (hzc_5 i) (W_n W674 (by (first | (clear h547 h659 p_692 s_719; omega) | (clear h547 p_692 s_719; omega) | omega)) (W_n W667 (by (first | (clear h547 h659 p_692 s_719; omega) | (clear h547 p_692 s_719; omega) | omega)) (W_n W662 (by (first | (clear h547 h659 p_692 s_719; omega) | (clear h547 p_692 s_719; omega) | omega)) rfl))))]; exact q2.2.1 i (by (first | (clear h547 h659 p_692 s_719; omega) | (clear h547 p_692 s_719; omega) | omega))) (by rw [(F_n F688 (show ¬ (77 = 77 ∧ 7 ≤ 59 ∧ 59 ≤ 10) by decide) (W_n W674 (by omega) (W_n W667 (by omega) (W_n W662 (by omega) rfl))))]; exact KN_f (fun a i z => (F_n F688 (hzc_3 a i z) (W_n W674 (hzc_2 a i z) (W_n W667 (by (first | (clear h547 h659 p_692 s_719; omega) | (clear h547 p_692 s_719; omega) | omega)) (W_n W662 (hzc_1 a i z) rfl))))) q2.2.2)
          exact h (1 : Int32) M694 hG689 F695 (by decide) (by decide) (by (first | (clear h547 h659 p_692 s_719; omega) | (clear h547 p_692 s_719; omega) | omega)) (by (first | (clear h547 h659 p_692 s_719; omega) | (clear h547 p_692 s_719; omega) | omega)) (fun _ => Or.imp (fun z => by (first | (clear h547 h659 p_692 s_719; omega) | (clear h547 p_692 s_719; omega) | omega)) (fun z => by (first | (clear h547 h659 p_692 s_719; omega) | (clear h547 p_692 s_719; omega) | omega)) p_692) (by (first | (clear h547 h659 p_692 s_719; omega) | (clear h547 p_692 s_719; omega) | omega)) (fun _ => j_715) (fun _ => by rw [show ((M694.2.1 77 65).toInt).toNat = ((M.2.1 77 65).toInt).toNat + 1 by (first | (clear h547 h659 p_692 s_719; omega) | (clear h547 p_692 s_719; omega) | omega)]; (first | (clear h547 h659 p_692 s_719; omega) | (clear h547 p_692 s_719; omega) | omega)) (fun _ => p_693.1) (fun _ => (q_no (by (first | (clear h547 h659 p_692 s_719; omega) | (clear h547 p_692 s_719; omega) | omega)) (by (first | (clear h547 h659 p_692 s_719; omega) | (clear h547 p_692 s_719; omega) | omega)) (by (first | (clear h547 h659 p_692 s_719; omega) | (clear h547 p_692 s_719; omega) | omega)) (by (first | (clear h547 h659 p_692 s_719; omega) | (clear h547 p_692 s_719; omega) | omega))).trans (q_w (by (first | (clear h547 h659 p_692 s_719; omega) | (clear h547 p_692 s_719; omega) | omega)) (by (first | (clear h547 h659 p_692 s_719; omega) | (clear h547 p_692 s_719; omega) | omega)) (by (first | (clear h547 h659 p_692 s_719; omega) | (clear h547 p_692 s_719; omega) | omega)) (by (first | (clear h547 h659 p_692 s_719; omega) | (clear h547 p_692 s_719; omega) | omega)))) (fun z => absurd z (by decide))
        · refine to_an (pc := 9) rw_224_9 rfl (to_c (pc := 10) rw_224_10 (x := (2 : Int32)) rfl rfl (s_v (pc := 11) rw_224_11 (dp1 hd (by decide)) (ls0 := [.ref 77, .int (2 : Int32)]) rfl (Nat.le_of_ble_eq_true rfl) (Nat.le_of_ble_eq_true rfl) rfl (to_rc rfl rfl rfl (g_o hG rfl)) rfl (to_an (pc := 0) rw_152_0 rfl (to_in (pc := 1) rw_152_1 rfl (s_pI (pc := 2) rw_152_2 hG rfl (fun M721 W720 => ?_))))))
          have hG722 := g_wf hG W720 rfl rfl (by decide)
          have F723 := FR.w F0 W720 (show 77 = 77 ∧ (4 = 4 ∨ 4 = 5 ∨ 7 ≤ 4 ∧ 4 ≤ 10) ∨ 77 = 77 ∧ (4 = 59 ∨ 65 ≤ 4 ∧ 4 ≤ 69) ∨ 112 ≤ 77 ∧ 77 ≤ 114 ∧ 40 ≤ 4 ∨ 77 = 115 ∨ 77 = 116 by decide)
          refine to_an (pc := 5) rw_152_5 rfl (to_an (pc := 6) rw_152_6 rfl ?_)
          have c_724 : M721.2.1 77 10 = (M.2.1 77 10) := (W_n W720 (by decide) rfl)
          refine tt_gI (pc := 7) rw_152_7 (g_o hG722 rfl) (v := (M.2.1 77 10)) c_724 (s_pI (pc := 10) rw_152_10 hG722 rfl (fun M726 W725 => ?_))
          have hG727 := g_wf hG722 W725 rfl rfl (by decide)
          have F728 := FR.w F723 W725 (show 77 = 77 ∧ (5 = 4 ∨ 5 = 5 ∨ 7 ≤ 5 ∧ 5 ≤ 10) ∨ 77 = 77 ∧ (5 = 59 ∨ 65 ≤ 5 ∧ 5 ≤ 69) ∨ 112 ≤ 77 ∧ 77 ≤ 114 ∧ 40 ≤ 5 ∨ 77 = 115 ∨ 77 = 116 by decide)
          refine to_c (pc := 13) rw_152_13 (x := (0 : Int32)) rfl rfl (s_r1 (pc := 14) rw_152_14 (A := 0) rfl (by decide) (s_r1 (pc := 14) rw_224_14 (A := 0) rfl (by decide) (b_ine_f (pc := 73) rw_225_73 (A := 0) rfl (by decide) (to_c (pc := 76) rw_225_76 (x := (0 : Int32)) rfl rfl (s_r1 (pc := 77) rw_225_77 (A := 0) rfl (by decide) ?_)))))
          have k_729 : (0 : Int32).toInt = 0 := rfl
          have c_730 : M726.2.1 77 7 = (M.2.1 77 7) := (W_n W725 (by decide) (W_n W720 (by decide) rfl))
          have t_731 : (M726.2.1 77 7).toInt = (M.2.1 77 7).toInt := congrArg Int32.toInt c_730
          have c_732 : M726.2.1 77 6 = (M.2.1 77 6) := (W_n W725 (by decide) (W_n W720 (by decide) rfl))
          have t_733 : (M726.2.1 77 6).toInt = (M.2.1 77 6).toInt := congrArg Int32.toInt c_732
          have c_734 : M726.2.1 77 4 = (2 : Int32) := (W_n W725 (by decide) (W_e W720))
          have k_735 : (2 : Int32).toInt = 2 := rfl
          have t_736 : (M726.2.1 77 4).toInt = (2 : Int32).toInt := congrArg Int32.toInt c_734
          have c_737 : M726.2.1 77 5 = (M.2.1 77 10) := (W_e W725)
          have t_738 : (M726.2.1 77 5).toInt = (M.2.1 77 10).toInt := congrArg Int32.toInt c_737
          have c_739 : M726.2.1 77 67 = (M.2.1 77 67) := (W_n W725 (by decide) (W_n W720 (by decide) rfl))
          have t_740 : (M726.2.1 77 67).toInt = (M.2.1 77 67).toInt := congrArg Int32.toInt c_739
          have c_741 : M726.2.1 77 69 = (M.2.1 77 69) := (W_n W725 (by decide) (W_n W720 (by decide) rfl))
          have t_742 : (M726.2.1 77 69).toInt = (M.2.1 77 69).toInt := congrArg Int32.toInt c_741
          exact h (0 : Int32) M726 hG727 F728 (by decide) (by decide) (by (first | (clear h547; omega) | omega)) (by (first | (clear h547; omega) | omega)) (fun z => absurd z (by decide)) (by (first | (clear h547; omega) | omega)) (fun z => absurd z (by (first | (clear h547; omega) | omega))) (fun z => absurd z (by decide)) (fun z => absurd z (by decide)) (fun z => absurd z (by decide)) (fun _ => inl_e (by (first | (clear h547; omega) | omega)) (by (first | (clear h547; omega) | omega)) (q_nox (by (first | (clear h547; omega) | omega)) (by (first | (clear h547; omega) | omega)) (by (first | (clear h547; omega) | omega)) (by (first | (clear h547; omega) | omega))))
  · refine to_an (pc := 8) rw_159_8 rfl (tt_gI (pc := 9) rw_159_9 (g_o hG rfl) (v := (M.2.1 77 9)) rfl (to_in (pc := 12) rw_159_12 rfl (b_cne (pc := 13) rw_159_13 (A := (M.2.1 77 9).toInt) (B := 40) rfl rfl (fun h743 => ?_) (fun h743 => ?_))))
    · refine to_c (pc := 20) rw_159_20 (x := (0 : Int32)) rfl rfl (s_r1 (pc := 21) rw_159_21 (A := 0) rfl (by decide) (b_ieq_t (pc := 6) rw_225_6 (A := 0) rfl (by decide) ?_))
      have z_744 := RS_4 q5 (a := a) (by (first | (clear h743; omega) | omega)) (by (first | (clear h743; omega) | omega))
      refine to_an (pc := 60) rw_225_60 rfl (to_c (pc := 61) rw_225_61 (x := (14 : Int32)) rfl rfl (s_v (pc := 63) rw_225_63 (dp0 hd (by decide)) (ls0 := [.ref 77, .int (14 : Int32)]) rfl (Nat.le_of_ble_eq_true rfl) (Nat.le_of_ble_eq_true rfl) rfl (to_rc rfl rfl rfl (g_o hG rfl)) rfl (to_an (pc := 0) rw_158_0 rfl (tt_gI (pc := 1) rw_158_1 (g_o hG rfl) (v := (M.2.1 77 8)) rfl (to_c (pc := 4) rw_158_4 (x := (1 : Int32)) rfl rfl (b_cne_t (pc := 5) rw_158_5 (A := (M.2.1 77 8).toInt) (B := 1) rfl rfl (by (first | (clear h743; omega) | omega)) (to_c (pc := 20) rw_158_20 (x := (0 : Int32)) rfl rfl (s_r1 (pc := 21) rw_158_21 (A := 0) rfl (by decide) (b_ieq_t (pc := 66) rw_225_66 (A := 0) rfl (by decide) (to_an (pc := 104) rw_225_104 rfl (tt_gI (pc := 105) rw_225_105 (g_o hG rfl) (v := (M.2.1 77 8)) rfl ?_)))))))))))
      refine to_c (pc := 108) rw_225_108 (x := (2 : Int32)) rfl rfl (b_ceq_f (pc := 109) rw_225_109 (A := (M.2.1 77 8).toInt) (B := 2) rfl rfl (by (first | (clear h743; omega) | omega)) (to_an (pc := 112) rw_225_112 rfl (to_c (pc := 113) rw_225_113 (x := (1 : Int32)) rfl rfl (s_v (pc := 114) rw_225_114 (dp0 hd (by decide)) (ls0 := [.ref 77, .int (1 : Int32)]) rfl (Nat.le_of_ble_eq_true rfl) (Nat.le_of_ble_eq_true rfl) rfl (to_rc rfl rfl rfl (g_o hG rfl)) rfl (to_an (pc := 0) rw_152_0 rfl (to_in (pc := 1) rw_152_1 rfl (s_pI (pc := 2) rw_152_2 hG rfl (fun M746 W745 => ?_))))))))
      have hG747 := g_wf hG W745 rfl rfl (by decide)
      have F748 := FR.w F0 W745 (show 77 = 77 ∧ (4 = 4 ∨ 4 = 5 ∨ 7 ≤ 4 ∧ 4 ≤ 10) ∨ 77 = 77 ∧ (4 = 59 ∨ 65 ≤ 4 ∧ 4 ≤ 69) ∨ 112 ≤ 77 ∧ 77 ≤ 114 ∧ 40 ≤ 4 ∨ 77 = 115 ∨ 77 = 116 by decide)
      refine to_an (pc := 5) rw_152_5 rfl (to_an (pc := 6) rw_152_6 rfl ?_)
      have c_749 : M746.2.1 77 10 = (M.2.1 77 10) := (W_n W745 (by decide) rfl)
      refine tt_gI (pc := 7) rw_152_7 (g_o hG747 rfl) (v := (M.2.1 77 10)) c_749 (s_pI (pc := 10) rw_152_10 hG747 rfl (fun M751 W750 => ?_))
      have hG752 := g_wf hG747 W750 rfl rfl (by decide)
      have F753 := FR.w F748 W750 (show 77 = 77 ∧ (5 = 4 ∨ 5 = 5 ∨ 7 ≤ 5 ∧ 5 ≤ 10) ∨ 77 = 77 ∧ (5 = 59 ∨ 65 ≤ 5 ∧ 5 ≤ 69) ∨ 112 ≤ 77 ∧ 77 ≤ 114 ∧ 40 ≤ 5 ∨ 77 = 115 ∨ 77 = 116 by decide)
      refine to_c (pc := 13) rw_152_13 (x := (0 : Int32)) rfl rfl (s_r1 (pc := 14) rw_152_14 (A := 0) rfl (by decide) (s_r1 (pc := 117) rw_225_117 (A := 0) rfl (by decide) ?_))
      have k_754 : (0 : Int32).toInt = 0 := rfl
      have c_755 : M751.2.1 77 7 = (M.2.1 77 7) := (W_n W750 (by decide) (W_n W745 (by decide) rfl))
      have t_756 : (M751.2.1 77 7).toInt = (M.2.1 77 7).toInt := congrArg Int32.toInt c_755
      have c_757 : M751.2.1 77 6 = (M.2.1 77 6) := (W_n W750 (by decide) (W_n W745 (by decide) rfl))
      have t_758 : (M751.2.1 77 6).toInt = (M.2.1 77 6).toInt := congrArg Int32.toInt c_757
      have c_759 : M751.2.1 77 4 = (1 : Int32) := (W_n W750 (by decide) (W_e W745))
      have k_760 : (1 : Int32).toInt = 1 := rfl
      have t_761 : (M751.2.1 77 4).toInt = (1 : Int32).toInt := congrArg Int32.toInt c_759
      have c_762 : M751.2.1 77 5 = (M.2.1 77 10) := (W_e W750)
      have t_763 : (M751.2.1 77 5).toInt = (M.2.1 77 10).toInt := congrArg Int32.toInt c_762
      have c_764 : M751.2.1 77 67 = (M.2.1 77 67) := (W_n W750 (by decide) (W_n W745 (by decide) rfl))
      have t_765 : (M751.2.1 77 67).toInt = (M.2.1 77 67).toInt := congrArg Int32.toInt c_764
      have c_766 : M751.2.1 77 69 = (M.2.1 77 69) := (W_n W750 (by decide) (W_n W745 (by decide) rfl))
      have t_767 : (M751.2.1 77 69).toInt = (M.2.1 77 69).toInt := congrArg Int32.toInt c_766
      exact h (0 : Int32) M751 hG752 F753 (by decide) (by decide) (by (first | (clear h743; omega) | omega)) (by (first | (clear h743; omega) | omega)) (fun z => absurd z (by decide)) (by (first | (clear h743; omega) | omega)) (fun z => absurd z (by (first | (clear h743; omega) | omega))) (fun z => absurd z (by decide)) (fun z => absurd z (by decide)) (fun z => absurd z (by decide)) (fun _ => inl_e (by (first | (clear h743; omega) | omega)) (by (first | (clear h743; omega) | omega)) (q_0x (by (first | (clear h743; omega) | omega)) (by (first | (clear h743; omega) | omega)) (by (first | (clear h743; omega) | omega)) (by (first | (clear h743; omega) | omega)) (by (first | (clear h743; omega) | omega))))
    · refine to_c (pc := 16) rw_159_16 (x := (1 : Int32)) rfl rfl (to_go (pc := 17) rw_159_17 (s_r1 (pc := 21) rw_159_21 (A := 1) rfl (by decide) (b_ieq_f (pc := 6) rw_225_6 (A := 1) rfl (by decide) ?_)))
      have z_768 := RS_4 q5 (a := a) (by omega) (by omega)
      refine to_an (pc := 9) rw_225_9 rfl (tt_gI (pc := 10) rw_225_10 (g_o hG rfl) (v := (M.2.1 77 67)) rfl (to_c (pc := 13) rw_225_13 (x := (8 : Int32)) rfl rfl (b_cne (pc := 15) rw_225_15 (A := (M.2.1 77 67).toInt) (B := 8) rfl rfl (fun h769 => ?_) (fun h769 => ?_))))
      · refine to_an (pc := 24) rw_225_24 rfl (to_dupr (pc := 25) rw_225_25 (tt_gI (pc := 26) rw_225_26 (g_o hG rfl) (v := (M.2.1 77 67)) rfl (to_c (pc := 29) rw_225_29 (x := (1 : Int32)) rfl rfl (s_add (pc := 30) rw_225_30 (A := (M.2.1 77 67).toInt) (B := 1) rfl rfl (by (first | (clear h769; omega) | omega)) (fun v770 e771 => s_pI (pc := 31) rw_225_31 hG rfl (fun M773 W772 => ?_))))))
        have hG774 := g_w hG W772 (A := v770.toInt) rfl (lo := 0) (hi := 8) rfl rfl (by (first | (clear h769; omega) | omega)) (by decide)
        have F775 := FR.w F0 W772 (show 77 = 77 ∧ (67 = 4 ∨ 67 = 5 ∨ 7 ≤ 67 ∧ 67 ≤ 10) ∨ 77 = 77 ∧ (67 = 59 ∨ 65 ≤ 67 ∧ 67 ≤ 69) ∨ 112 ≤ 77 ∧ 77 ≤ 114 ∧ 40 ≤ 67 ∨ 77 = 115 ∨ 77 = 116 by decide)
        refine to_an (pc := 34) rw_225_34 rfl (s_gR (pc := 35) rw_225_35 hG774 rfl (v := 115) rfl (to_an (pc := 38) rw_225_38 rfl ?_))
        have c_776 : M773.2.1 77 65 = (M.2.1 77 65) := (W_n W772 (by decide) rfl)
        refine tt_gI (pc := 39) rw_225_39 (g_o hG774 rfl) (v := (M.2.1 77 65)) c_776 (to_c (pc := 42) rw_225_42 (x := (0 : Int32)) rfl rfl (s_ias (pc := 43) rw_225_43 hG774 rfl (n := 64) rfl (A := (M.2.1 77 65).toInt) rfl (by (first | (clear h769; omega) | omega)) (by (first | (clear h769; omega) | omega)) (fun M778 W777 => ?_)))
        have hG779 := g_w hG774 W777 (A := 0) rfl (lo := 0) (hi := 4) rfl rfl (by (first | (clear h769; omega) | omega)) (by decide)
        have F780 := FR.w F775 W777 (show 115 = 77 ∧ (((M.2.1 77 65).toInt).toNat = 4 ∨ ((M.2.1 77 65).toInt).toNat = 5 ∨ 7 ≤ ((M.2.1 77 65).toInt).toNat ∧ ((M.2.1 77 65).toInt).toNat ≤ 10) ∨ 115 = 77 ∧ (((M.2.1 77 65).toInt).toNat = 59 ∨ 65 ≤ ((M.2.1 77 65).toInt).toNat ∧ ((M.2.1 77 65).toInt).toNat ≤ 69) ∨ 112 ≤ 115 ∧ 115 ≤ 114 ∧ 40 ≤ ((M.2.1 77 65).toInt).toNat ∨ 115 = 115 ∨ 115 = 116 by (first | (clear h769; omega) | omega))
        refine to_an (pc := 44) rw_225_44 rfl (to_dupr (pc := 45) rw_225_45 ?_)
        have c_781 : M778.2.1 77 65 = (M.2.1 77 65) := (W_n W777 (fun z => absurd z.1 (by decide)) c_776)
        refine tt_gI (pc := 46) rw_225_46 (g_o hG779 rfl) (v := (M.2.1 77 65)) c_781 (to_c (pc := 49) rw_225_49 (x := (1 : Int32)) rfl rfl (s_add (pc := 50) rw_225_50 (A := (M.2.1 77 65).toInt) (B := 1) rfl rfl (by (first | (clear h769; omega) | omega)) (fun v782 e783 => s_pI (pc := 51) rw_225_51 hG779 rfl (fun M785 W784 => ?_))))
        have hG786 := g_w hG779 W784 (A := v782.toInt) rfl (lo := 0) (hi := 48) rfl rfl (by (first | (clear h769; omega) | omega)) (by decide)
        have F787 := FR.w F780 W784 (show 77 = 77 ∧ (65 = 4 ∨ 65 = 5 ∨ 7 ≤ 65 ∧ 65 ≤ 10) ∨ 77 = 77 ∧ (65 = 59 ∨ 65 ≤ 65 ∧ 65 ≤ 69) ∨ 112 ≤ 77 ∧ 77 ≤ 114 ∧ 40 ≤ 65 ∨ 77 = 115 ∨ 77 = 116 by decide)
        refine to_an (pc := 54) rw_225_54 rfl (s_v (pc := 55) rw_225_55 (dp0 hd (by decide)) (ls0 := [.ref 77]) rfl (Nat.le_of_ble_eq_true rfl) (Nat.le_of_ble_eq_true rfl) rfl (to_rc rfl rfl rfl (g_o hG786 rfl)) rfl ?_)
        have c_788 : M785.2.1 77 7 = (M.2.1 77 7) := (W_n W784 (by decide) (W_n W777 (fun z => absurd z.1 (by decide)) (W_n W772 (by decide) rfl)))
        have t_789 : (M785.2.1 77 7).toInt = (M.2.1 77 7).toInt := congrArg Int32.toInt c_788
        have c_790 : M785.2.1 77 6 = (M.2.1 77 6) := (W_n W784 (by decide) (W_n W777 (fun z => absurd z.1 (by decide)) (W_n W772 (by decide) rfl)))
        have t_791 : (M785.2.1 77 6).toInt = (M.2.1 77 6).toInt := congrArg Int32.toInt c_790
        have c_792 : M785.2.1 77 10 = (M.2.1 77 10) := (W_n W784 (by decide) (W_n W777 (fun z => absurd z.1 (by decide)) (W_n W772 (by decide) rfl)))
        have t_793 : (M785.2.1 77 10).toInt = (M.2.1 77 10).toInt := congrArg Int32.toInt c_792
        have j_794 := (RS_f (fun a i z => W_n W784 (th_26 a i z) rfl) (RS_f (fun a i z => W_n W777 (th_27 a i _ z) rfl) (RS_f (fun a i z => W_n W772 (th_32 a i z) rfl) q5)))
        have z_795 := RS_b j_794 (a := a) (by (first | (clear h769; omega) | omega))
        have j_796 := (TR_f (fun a i z => W_n W784 (th_28 a i z) rfl) (TR_f (fun a i z => W_n W777 (th_29 a i _ z) rfl) (TR_f (fun a i z => W_n W772 (th_33 a i z) rfl) q9)))
        have j_797 := (W9_f (fun a i z => W_n W784 (th_30 a i z) rfl) (W9_f (fun a i z => W_n W777 (th_31 a i _ z) rfl) (W9_f (fun a i z => W_n W772 (th_34 a i z) rfl) q10)))
        refine E_156 hX (dp1 hd (by decide)) hG786 (by (first | (clear h769; omega) | omega)) (by (first | (clear h769; omega) | omega)) (by (first | (clear h769; omega) | omega)) (by (first | (clear h769; omega) | omega)) j_796 j_797  (fun M804 hG799 F798 p_800 p_801 p_802 p_803 => ?_)
        have F805 := FR.c F787 F798 th_13
        have b_806 := g_b hG799 (a := 77) (i := 7) (lo := 0) (hi := 500) rfl rfl
        have c_807 : M804.2.1 77 6 = (M.2.1 77 6) := (F_n F798 (show ¬ (77 = 77 ∧ 7 ≤ 6 ∧ 6 ≤ 10) by decide) c_790)
        have t_808 : (M804.2.1 77 6).toInt = (M.2.1 77 6).toInt := congrArg Int32.toInt c_807
        have b_809 := g_b hG799 (a := 77) (i := 8) (lo := 0) (hi := 5) rfl rfl
        have b_810 := g_b hG799 (a := 77) (i := 10) (lo := 0) (hi := 500) rfl rfl
        have z_811 := RS_s p_803.2 (a := a) (by (first | (clear h769 p_802; omega) | (clear p_802; omega) | omega))
        refine to_c (pc := 58) rw_225_58 (x := (1 : Int32)) rfl rfl (s_r1 (pc := 59) rw_225_59 (A := 1) rfl (by decide) ?_)
        have k_812 : (1 : Int32).toInt = 1 := rfl
        have c_813 : M804.2.1 77 59 = (M.2.1 77 59) := (F_n F798 (show ¬ (77 = 77 ∧ 7 ≤ 59 ∧ 59 ≤ 10) by decide) (W_n W784 (by decide) (W_n W777 (fun z => absurd z.1 (by decide)) (W_n W772 (by decide) rfl))))
        have t_814 : (M804.2.1 77 59).toInt = (M.2.1 77 59).toInt := congrArg Int32.toInt c_813
        have c_815 : M804.2.1 77 65 = v782 := (F_n F798 (show ¬ (77 = 77 ∧ 7 ≤ 65 ∧ 65 ≤ 10) by decide) (W_e W784))
        have t_816 : (M804.2.1 77 65).toInt = v782.toInt := congrArg Int32.toInt c_815
        have c_817 : M804.2.1 77 66 = (M.2.1 77 66) := (F_n F798 (show ¬ (77 = 77 ∧ 7 ≤ 66 ∧ 66 ≤ 10) by decide) (W_n W784 (by decide) (W_n W777 (fun z => absurd z.1 (by decide)) (W_n W772 (by decide) rfl))))
        have t_818 : (M804.2.1 77 66).toInt = (M.2.1 77 66).toInt := congrArg Int32.toInt c_817
        have c_819 : M804.2.1 77 67 = v770 := (F_n F798 (show ¬ (77 = 77 ∧ 7 ≤ 67 ∧ 67 ≤ 10) by decide) (W_n W784 (by decide) (W_n W777 (fun z => absurd z.1 (by decide)) (W_e W772))))
        have t_820 : (M804.2.1 77 67).toInt = v770.toInt := congrArg Int32.toInt c_819
        have c_821 : M804.2.1 77 68 = (M.2.1 77 68) := (F_n F798 (show ¬ (77 = 77 ∧ 7 ≤ 68 ∧ 68 ≤ 10) by decide) (W_n W784 (by decide) (W_n W777 (fun z => absurd z.1 (by decide)) (W_n W772 (by decide) rfl))))
        have t_822 : (M804.2.1 77 68).toInt = (M.2.1 77 68).toInt := congrArg Int32.toInt c_821
        have c_823 : M804.2.1 77 69 = (M.2.1 77 69) := (F_n F798 (show ¬ (77 = 77 ∧ 7 ≤ 69 ∧ 69 ≤ 10) by decide) (W_n W784 (by decide) (W_n W777 (fun z => absurd z.1 (by decide)) (W_n W772 (by decide) rfl))))
        have t_824 : (M804.2.1 77 69).toInt = (M.2.1 77 69).toInt := congrArg Int32.toInt c_823
        have k_826 : (0 : Int32).toInt = 0 := rfl
        have s_827 := Wx_f (M := M) (M1 := M804) ((M.2.1 77 65).toInt).toNat (fun i z => (F_n F798 (hzc_5 i) (W_n W784 (fun e => absurd e.1 (by decide)) (W_n W777 (by omega) (W_n W772 (fun e => absurd e.1 (by decide)) rfl)))))
        have s_828 : (M804.2.1 115 ((M.2.1 77 65).toInt).toNat).toInt = (0 : Int32).toInt := by rw [show ((M.2.1 77 65).toInt).toNat = ((M.2.1 77 65).toInt).toNat by (first | (clear h769 p_802; omega) | (clear p_802; omega) | omega)]; exact congrArg Int32.toInt (F_n F798 (show ¬ (115 = 77 ∧ 7 ≤ (((M.2.1 77 65).toInt).toNat) ∧ (((M.2.1 77 65).toInt).toNat) ≤ 10) by (first | (clear h769 p_802; omega) | (clear p_802; omega) | omega)) (W_n W784 (by (first | (clear h769 p_802; omega) | (clear p_802; omega) | omega)) (W_e W777)))
        have s_829 := Wx_s M804 ((M.2.1 77 65).toInt).toNat
        have j_825 : QK M804 := QK_i (by unfold QK_c; rw [show ((M804.2.1 77 65).toInt).toNat = ((M.2.1 77 65).toInt).toNat + 1 by (first | (clear h769 p_802 s_829; omega) | (clear p_802 s_829; omega) | omega)]; refine ⟨by (first | (clear h769 p_802 s_829; omega) | (clear p_802 s_829; omega) | omega), by (first | (clear h769 p_802 s_829; omega) | (clear p_802 s_829; omega) | omega), by (first | (clear h769 p_802 s_829; omega) | (clear p_802 s_829; omega) | omega), by (first | (clear h769 p_802 s_829; omega) | (clear p_802 s_829; omega) | omega)⟩) (fun i z => by
            by_cases ei : i = ((M.2.1 77 65).toInt).toNat
            · rw [ei]; omega
            · rw [(F_n F798 (hzc_5 i) (W_n W784 (by (first | (clear h769 p_802 s_829; omega) | (clear p_802 s_829; omega) | omega)) (W_n W777 (by (first | (clear h769 p_802 s_829; omega) | (clear p_802 s_829; omega) | omega)) (W_n W772 (by (first | (clear h769 p_802 s_829; omega) | (clear p_802 s_829; omega) | omega)) rfl))))]; exact q2.2.1 i (by (first | (clear h769 p_802 s_829; omega) | (clear p_802 s_829; omega) | omega))) (by rw [(F_n F798 (show ¬ (77 = 77 ∧ 7 ≤ 59 ∧ 59 ≤ 10) by decide) (W_n W784 (by omega) (W_n W777 (by omega) (W_n W772 (by omega) rfl))))]; exact KN_f (fun a i z => (F_n F798 (hzc_3 a i z) (W_n W784 (hzc_2 a i z) (W_n W777 (by (first | (clear h769 p_802 s_829; omega) | (clear p_802 s_829; omega) | omega)) (W_n W772 (hzc_4 a i z) rfl))))) q2.2.2)
        exact h (1 : Int32) M804 hG799 F805 (by decide) (by decide) (by (first | (clear h769 p_802 s_829; omega) | (clear p_802 s_829; omega) | omega)) (by (first | (clear h769 p_802 s_829; omega) | (clear p_802 s_829; omega) | omega)) (fun _ => Or.imp (fun z => by (first | (clear h769 p_802 s_829; omega) | (clear p_802 s_829; omega) | omega)) (fun z => by (first | (clear h769 p_802 s_829; omega) | (clear p_802 s_829; omega) | omega)) p_802) (by (first | (clear h769 p_802 s_829; omega) | (clear p_802 s_829; omega) | omega)) (fun _ => j_825) (fun _ => by rw [show ((M804.2.1 77 65).toInt).toNat = ((M.2.1 77 65).toInt).toNat + 1 by (first | (clear h769 p_802 s_829; omega) | (clear p_802 s_829; omega) | omega)]; (first | (clear h769 p_802 s_829; omega) | (clear p_802 s_829; omega) | omega)) (fun _ => p_803.1) (fun _ => (q_lp (by (first | (clear h769 p_802 s_829; omega) | (clear p_802 s_829; omega) | omega)) (by (first | (clear h769 p_802 s_829; omega) | (clear p_802 s_829; omega) | omega)) (by (first | (clear h769 p_802 s_829; omega) | (clear p_802 s_829; omega) | omega)) (by (first | (clear h769 p_802 s_829; omega) | (clear p_802 s_829; omega) | omega))).trans (q_w (by (first | (clear h769 p_802 s_829; omega) | (clear p_802 s_829; omega) | omega)) (by (first | (clear h769 p_802 s_829; omega) | (clear p_802 s_829; omega) | omega)) (by (first | (clear h769 p_802 s_829; omega) | (clear p_802 s_829; omega) | omega)) (by (first | (clear h769 p_802 s_829; omega) | (clear p_802 s_829; omega) | omega)))) (fun z => absurd z (by decide))
      · refine to_an (pc := 18) rw_225_18 rfl (to_c (pc := 19) rw_225_19 (x := (2 : Int32)) rfl rfl (s_v (pc := 20) rw_225_20 (dp0 hd (by decide)) (ls0 := [.ref 77, .int (2 : Int32)]) rfl (Nat.le_of_ble_eq_true rfl) (Nat.le_of_ble_eq_true rfl) rfl (to_rc rfl rfl rfl (g_o hG rfl)) rfl (to_an (pc := 0) rw_152_0 rfl (to_in (pc := 1) rw_152_1 rfl (s_pI (pc := 2) rw_152_2 hG rfl (fun M831 W830 => ?_))))))
        have hG832 := g_wf hG W830 rfl rfl (by decide)
        have F833 := FR.w F0 W830 (show 77 = 77 ∧ (4 = 4 ∨ 4 = 5 ∨ 7 ≤ 4 ∧ 4 ≤ 10) ∨ 77 = 77 ∧ (4 = 59 ∨ 65 ≤ 4 ∧ 4 ≤ 69) ∨ 112 ≤ 77 ∧ 77 ≤ 114 ∧ 40 ≤ 4 ∨ 77 = 115 ∨ 77 = 116 by decide)
        refine to_an (pc := 5) rw_152_5 rfl (to_an (pc := 6) rw_152_6 rfl ?_)
        have c_834 : M831.2.1 77 10 = (M.2.1 77 10) := (W_n W830 (by decide) rfl)
        refine tt_gI (pc := 7) rw_152_7 (g_o hG832 rfl) (v := (M.2.1 77 10)) c_834 (s_pI (pc := 10) rw_152_10 hG832 rfl (fun M836 W835 => ?_))
        have hG837 := g_wf hG832 W835 rfl rfl (by decide)
        have F838 := FR.w F833 W835 (show 77 = 77 ∧ (5 = 4 ∨ 5 = 5 ∨ 7 ≤ 5 ∧ 5 ≤ 10) ∨ 77 = 77 ∧ (5 = 59 ∨ 65 ≤ 5 ∧ 5 ≤ 69) ∨ 112 ≤ 77 ∧ 77 ≤ 114 ∧ 40 ≤ 5 ∨ 77 = 115 ∨ 77 = 116 by decide)
        refine to_c (pc := 13) rw_152_13 (x := (0 : Int32)) rfl rfl (s_r1 (pc := 14) rw_152_14 (A := 0) rfl (by decide) (s_r1 (pc := 23) rw_225_23 (A := 0) rfl (by decide) ?_))
        have k_839 : (0 : Int32).toInt = 0 := rfl
        have c_840 : M836.2.1 77 7 = (M.2.1 77 7) := (W_n W835 (by decide) (W_n W830 (by decide) rfl))
        have t_841 : (M836.2.1 77 7).toInt = (M.2.1 77 7).toInt := congrArg Int32.toInt c_840
        have c_842 : M836.2.1 77 6 = (M.2.1 77 6) := (W_n W835 (by decide) (W_n W830 (by decide) rfl))
        have t_843 : (M836.2.1 77 6).toInt = (M.2.1 77 6).toInt := congrArg Int32.toInt c_842
        have c_844 : M836.2.1 77 4 = (2 : Int32) := (W_n W835 (by decide) (W_e W830))
        have k_845 : (2 : Int32).toInt = 2 := rfl
        have t_846 : (M836.2.1 77 4).toInt = (2 : Int32).toInt := congrArg Int32.toInt c_844
        have c_847 : M836.2.1 77 5 = (M.2.1 77 10) := (W_e W835)
        have t_848 : (M836.2.1 77 5).toInt = (M.2.1 77 10).toInt := congrArg Int32.toInt c_847
        have c_849 : M836.2.1 77 67 = (M.2.1 77 67) := (W_n W835 (by decide) (W_n W830 (by decide) rfl))
        have t_850 : (M836.2.1 77 67).toInt = (M.2.1 77 67).toInt := congrArg Int32.toInt c_849
        have c_851 : M836.2.1 77 69 = (M.2.1 77 69) := (W_n W835 (by decide) (W_n W830 (by decide) rfl))
        have t_852 : (M836.2.1 77 69).toInt = (M.2.1 77 69).toInt := congrArg Int32.toInt c_851
        exact h (0 : Int32) M836 hG837 F838 (by decide) (by decide) (by omega) (by omega) (fun z => absurd z (by decide)) (by omega) (fun z => absurd z (by omega)) (fun z => absurd z (by decide)) (fun z => absurd z (by decide)) (fun z => absurd z (by decide)) (fun _ => inl_e (by omega) (by omega) (q_lpx (by omega) (by omega) (by omega) (by omega)))
