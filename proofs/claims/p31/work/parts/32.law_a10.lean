set_option maxRecDepth 4000 in
set_option maxHeartbeats 0 in
theorem LW_10 {X : mm_X} {d L : Nat} {M : mm_M} {Q : Option Value → mm_M → Prop} {i : Int32} {u5 u6 : Value} (hX : g_X X) (hW : g_W X) (hW2 : g_W2 X) (hL : (X 0).1 = L) (h3 : L ≤ 3072) (hd : 40 ≤ d) (hi : 0 ≤ i.toInt) (hi2 : i.toInt + 6 ≤ (L : Int)) (H : LI10 M) (h : ∀ (M1 : mm_M) (v5 v6 : Value), LI10 M1 → M1.1.2.1 ≤ M.1.2.1 + 1 → M1.1.2.2.1 ≤ M.1.2.2.1 + 6 → mm_T X d 0 1313 [.ref mm_ext, .ref 0, .ref 77, .ref 125, .int i, v5, v6] [] M1 Q) : mm_T X d 0 513 [.ref mm_ext, .ref 0, .ref 77, .ref 125, .int i, u5, u6] [] M Q := by
  obtain ⟨⟨⟨⟨⟨⟨⟨⟨⟨hG, ⟨jPI, jNI, jQI, jPQE⟩, ⟨jFA, jWC, jNJ, jPS, jKQ⟩, jJ, jE⟩, jTP, jW9⟩, jNE, jCC⟩, -⟩, jOV⟩, jW8⟩, jNN⟩, jAN⟩, jKNA, jDN, jPN⟩ := H
  have b_1 := g_b hG (a := 77) (i := 7) (lo := 0) (hi := 500) rfl rfl
  have b_2 := g_b hG (a := 77) (i := 6) (lo := 0) (hi := 500) rfl rfl
  have b_3 := g_b hG (a := 1) (i := 1) (lo := 0) (hi := 500) rfl rfl
  have b_4 := g_b hG (a := 77) (i := 1) (lo := 0) (hi := 500) rfl rfl
  have b_5 := g_b hG (a := 0) (i := 12) (lo := 0) (hi := 30) rfl rfl
  have b_6 := g_b hG (a := 77) (i := 28) (lo := 0) (hi := 30) rfl rfl
  have b_7 := g_b hG (a := 6) (i := 0) (lo := 0) (hi := 150) rfl rfl
  have b_8 := g_b hG (a := 77) (i := 29) (lo := 0) (hi := 150) rfl rfl
  have b_9 := g_b hG (a := 28) (i := 8) (lo := 0) (hi := 3000) rfl rfl
  have b_10 := g_b hG (a := 77) (i := 43) (lo := 0) (hi := 3000) rfl rfl
  refine to_an (pc := 513) rw_0_513 rfl (to_an (pc := 514) rw_0_514 rfl (to_i (pc := 515) rw_0_515 rfl (to_c (pc := 517) rw_0_517 (x := (1 : Int32)) rfl rfl (s_add (pc := 518) rw_0_518 (A := i.toInt) (B := 1) rfl rfl (by omega) (fun v11 e12 => s_x0 (pc := 519) rw_0_519 hL (A := v11.toInt) rfl (by omega) (by omega) (fun v13 e14 => to_an (pc := 520) rw_0_520 rfl (to_i (pc := 521) rw_0_521 rfl (to_c (pc := 523) rw_0_523 (x := (2 : Int32)) rfl rfl (s_add (pc := 524) rw_0_524 (A := i.toInt) (B := 2) rfl rfl (by omega) (fun v15 e16 => s_x0 (pc := 525) rw_0_525 hL (A := v15.toInt) rfl (by omega) (by omega) (fun v17 e18 => to_an (pc := 526) rw_0_526 rfl ?_)))))))))))
  refine to_i (pc := 527) rw_0_527 rfl (to_c (pc := 529) rw_0_529 (x := (3 : Int32)) rfl rfl (s_add (pc := 530) rw_0_530 (A := i.toInt) (B := 3) rfl rfl (by omega) (fun v19 e20 => s_x0 (pc := 531) rw_0_531 hL (A := v19.toInt) rfl (by omega) (by omega) (fun v21 e22 => s_v (pc := 532) rw_0_532 (dp0 hd (by decide)) (ls0 := [.ref 0, .int v13, .int v17, .int v21]) rfl (Nat.le_of_ble_eq_true rfl) (Nat.le_of_ble_eq_true rfl) rfl (to_rc rfl rfl rfl (g_o hG rfl)) rfl ?_))))
  obtain ⟨pz23, pzz23, qz23, qzz23, hpz23, hpzz23, hqz23, hqzz23, hpqz23⟩ := id jPQE
  obtain ⟨sg, NN, nz, ca, hs1, hs2, hn1, hn2, hn3, hn4, hn5⟩ := AN_u jAN hpqz23
  refine E_119 hX (dp1 hd (by decide)) hG hpz23 hpzz23 hqz23 hqzz23 hpqz23 jNI jPI jQI hs1.1 (c := v13) (f := v17) (v := v21) (sg := sg) (p := pz23) (pz := pzz23) (q := qz23) (qz := qzz23) (fun r24 M33 hG26 F25 p_27 p_28 p_29 p_30 p_31 p_32 => ?_)
  have n_34 : M33.1.2.1 = M.1.2.1 ∧ M33.1.2.2.1 = M.1.2.2.1 := by rw [F25.1]; exact ⟨rfl, rfl⟩
  have b_36 := g_b hG26 (a := 6) (i := 0) (lo := 0) (hi := 150) rfl rfl
  have c_37 : M33.2.1 77 29 = (M.2.1 77 29) := (F_n F25 (show ¬ (6 ≤ 77 ∧ 77 ≤ 10) by decide) rfl)
  have t_38 : (M33.2.1 77 29).toInt = (M.2.1 77 29).toInt := congrArg Int32.toInt c_37
  refine to_popi (pc := 535) rw_0_535 (to_an (pc := 536) rw_0_536 rfl (to_an (pc := 537) rw_0_537 rfl (to_i (pc := 538) rw_0_538 rfl (to_c (pc := 540) rw_0_540 (x := (1 : Int32)) rfl rfl (s_addk (pc := 541) rw_0_541 (A := i.toInt) (B := 1) rfl rfl (by (first | (clear hpz23 hpzz23 hqz23 hqzz23 p_30 p_31; omega) | (clear hpz23 hpzz23 hqz23 hqzz23; omega) | (clear hpz23 hpzz23 hqz23 p_30 p_31; omega) | omega)) (v := v11) e12 (s_x0k (pc := 542) rw_0_542 hL (A := v11.toInt) rfl (by (first | (clear hpz23 hpzz23 hqz23 hqzz23 p_30 p_31; omega) | (clear hpz23 hpzz23 hqz23 hqzz23; omega) | (clear hpz23 hpzz23 hqz23 p_30 p_31; omega) | omega)) (by (first | (clear hpz23 hpzz23 hqz23 hqzz23 p_30 p_31; omega) | (clear hpz23 hpzz23 hqz23 hqzz23; omega) | (clear hpz23 hpzz23 hqz23 p_30 p_31; omega) | omega)) (v := v13) e14 (to_an (pc := 543) rw_0_543 rfl (to_i (pc := 544) rw_0_544 rfl (to_c (pc := 546) rw_0_546 (x := (2 : Int32)) rfl rfl (s_addk (pc := 547) rw_0_547 (A := i.toInt) (B := 2) rfl rfl (by (first | (clear hpz23 hpzz23 hqz23 hqzz23 p_30 p_31; omega) | (clear hpz23 hpzz23 hqz23 hqzz23; omega) | (clear hpz23 hpzz23 hqz23 p_30 p_31; omega) | omega)) (v := v15) e16 (s_x0k (pc := 548) rw_0_548 hL (A := v15.toInt) rfl (by (first | (clear hpz23 hpzz23 hqz23 hqzz23 p_30 p_31; omega) | (clear hpz23 hpzz23 hqz23 hqzz23; omega) | (clear hpz23 hpzz23 hqz23 p_30 p_31; omega) | omega)) (by (first | (clear hpz23 hpzz23 hqz23 hqzz23 p_30 p_31; omega) | (clear hpz23 hpzz23 hqz23 hqzz23; omega) | (clear hpz23 hpzz23 hqz23 p_30 p_31; omega) | omega)) (v := v17) e18 ?_)))))))))))
  refine to_an (pc := 549) rw_0_549 rfl (to_i (pc := 550) rw_0_550 rfl (to_c (pc := 552) rw_0_552 (x := (3 : Int32)) rfl rfl (s_addk (pc := 553) rw_0_553 (A := i.toInt) (B := 3) rfl rfl (by (first | (clear hpz23 hpzz23 hqz23 hqzz23 p_30 p_31; omega) | (clear hpz23 hpzz23 hqz23 hqzz23; omega) | (clear hpz23 hpzz23 hqz23 p_30 p_31; omega) | omega)) (v := v19) e20 (s_x0k (pc := 554) rw_0_554 hL (A := v19.toInt) rfl (by (first | (clear hpz23 hpzz23 hqz23 hqzz23 p_30 p_31; omega) | (clear hpz23 hpzz23 hqz23 hqzz23; omega) | (clear hpz23 hpzz23 hqz23 p_30 p_31; omega) | omega)) (by (first | (clear hpz23 hpzz23 hqz23 hqzz23 p_30 p_31; omega) | (clear hpz23 hpzz23 hqz23 hqzz23; omega) | (clear hpz23 hpzz23 hqz23 p_30 p_31; omega) | omega)) (v := v21) e22 (s_v (pc := 555) rw_0_555 (dp0 hd (by decide)) (ls0 := [.ref 77, .int v13, .int v17, .int v21]) rfl (Nat.le_of_ble_eq_true rfl) (Nat.le_of_ble_eq_true rfl) rfl (to_rc rfl rfl rfl (g_o hG26 rfl)) rfl ?_)))))
  have c_45 : M33.2.1 77 28 = (M.2.1 77 28) := (F_n F25 (show ¬ (6 ≤ 77 ∧ 77 ≤ 10) by decide) rfl)
  have t_46 : (M33.2.1 77 28).toInt = (M.2.1 77 28).toInt := congrArg Int32.toInt c_45
  have j_47 := (NJ_f (tg_609 F25) jNJ)
  have j_48 := (FA_f (tg_610 F25) jFA)
  have j_49 := (PLk_f (tg_611 F25) hs2.1)
  refine E_194 hX (dp1 hd (by decide)) hG26 j_47 j_48 j_49 (c := v13) (f := v17) (v := v21) (sg := sg) (fun r50 M57 hG52 F51 p_53 p_54 p_55 p_56 => ?_)
  have n_58 : M57.1.2.1 = M33.1.2.1 ∧ M57.1.2.2.1 = M33.1.2.2.1 := by rw [F51.1]; exact ⟨rfl, rfl⟩
  have b_60 := g_b hG52 (a := 77) (i := 29) (lo := 0) (hi := 150) rfl rfl
  have k_61 : (0 : Int32).toInt = 0 := rfl
  have k_62 : (1 : Int32).toInt = 1 := rfl
  have k_63 : (2 : Int32).toInt = 2 := rfl
  have k_64 : (3 : Int32).toInt = 3 := rfl
  have k_65 : (4 : Int32).toInt = 4 := rfl
  have k_66 : (5 : Int32).toInt = 5 := rfl
  have z_67 := AN_n hpz23 hpqz23 hs1 hs2 hn1 hn2 hn3 hn4 hn5 F25 (fun a i z => show ¬ (6 ≤ a ∧ a ≤ 10) by (first | (clear hpz23 hpzz23 hqz23 hqzz23 p_30 p_31 p_54 p_55; omega) | (clear hpz23 hpzz23 hqz23 hqzz23; omega) | (clear hpz23 hpzz23 hqz23 p_30 p_31 p_54 p_55; omega) | omega)) F51 (fun a i z => show ¬ (a = 77 ∧ (i = 2 ∨ i = 29) ∨ 90 ≤ a ∧ a ≤ 93) by (first | (clear hpz23 hpzz23 hqz23 hqzz23 p_30 p_31 p_54 p_55; omega) | (clear hpz23 hpzz23 hqz23 hqzz23; omega) | (clear hpz23 hpzz23 hqz23 p_30 p_31 p_54 p_55; omega) | omega)) p_32 p_56 (by (first | (clear hpz23 hpzz23 hqz23 hqzz23 p_30 p_31 p_54 p_55; omega) | (clear hpz23 hpzz23 hqz23 hqzz23; omega) | (clear hpz23 hpzz23 hqz23 p_30 p_31 p_54 p_55; omega) | omega)) (by (first | (clear hpz23 hpzz23 hqz23 hqzz23 p_30 p_31 p_54 p_55; omega) | (clear hpz23 hpzz23 hqz23 hqzz23; omega) | (clear hpz23 hpzz23 hqz23 p_30 p_31 p_54 p_55; omega) | omega)) (by (first | (clear hpz23 hpzz23 hqz23 hqzz23 p_30 p_31 p_54 p_55; omega) | (clear hpz23 hpzz23 hqz23 hqzz23; omega) | (clear hpz23 hpzz23 hqz23 p_30 p_31 p_54 p_55; omega) | omega)) (by (first | (clear hpz23 hpzz23 hqz23 hqzz23 p_30 p_31 p_54 p_55; omega) | (clear hpz23 hpzz23 hqz23 hqzz23; omega) | (clear hpz23 hpzz23 hqz23 p_30 p_31 p_54 p_55; omega) | omega)) (fun z9 => ⟨fun z => by (first | (clear hpz23 hpzz23 hqz23 hqzz23 p_30 p_31 p_54 p_55; omega) | (clear hpz23 hpzz23 hqz23 hqzz23; omega) | (clear hpz23 hpzz23 hqz23 p_30 p_31 p_54 p_55; omega) | omega), fun z => by (first | (clear hpz23 hpzz23 hqz23 hqzz23 p_30 p_31 p_54 p_55; omega) | (clear hpz23 hpzz23 hqz23 hqzz23; omega) | (clear hpz23 hpzz23 hqz23 p_30 p_31 p_54 p_55; omega) | omega), fun z => by (first | (clear hpz23 hpzz23 hqz23 hqzz23 p_30 p_31 p_54 p_55; omega) | (clear hpz23 hpzz23 hqz23 hqzz23; omega) | (clear hpz23 hpzz23 hqz23 p_30 p_31 p_54 p_55; omega) | omega), fun z => by (first | (clear hpz23 hpzz23 hqz23 hqzz23 p_30 p_31 p_54 p_55; omega) | (clear hpz23 hpzz23 hqz23 hqzz23; omega) | (clear hpz23 hpzz23 hqz23 p_30 p_31 p_54 p_55; omega) | omega), fun z => by (first | (clear hpz23 hpzz23 hqz23 hqzz23 p_30 p_31 p_54 p_55; omega) | (clear hpz23 hpzz23 hqz23 hqzz23; omega) | (clear hpz23 hpzz23 hqz23 p_30 p_31 p_54 p_55; omega) | omega)⟩)
  refine to_popi (pc := 558) rw_0_558 (to_go (pc := 559) rw_0_559 ?_)
  have c_68 : M57.2.1 77 7 = (M.2.1 77 7) := (F_n F51 (show ¬ (77 = 77 ∧ (7 = 2 ∨ 7 = 29) ∨ 90 ≤ 77 ∧ 77 ≤ 93) by decide) (F_n F25 (show ¬ (6 ≤ 77 ∧ 77 ≤ 10) by decide) rfl))
  have t_69 : (M57.2.1 77 7).toInt = (M.2.1 77 7).toInt := congrArg Int32.toInt c_68
  have c_70 : M57.2.1 77 6 = (M.2.1 77 6) := (F_n F51 (show ¬ (77 = 77 ∧ (6 = 2 ∨ 6 = 29) ∨ 90 ≤ 77 ∧ 77 ≤ 93) by decide) (F_n F25 (show ¬ (6 ≤ 77 ∧ 77 ≤ 10) by decide) rfl))
  have t_71 : (M57.2.1 77 6).toInt = (M.2.1 77 6).toInt := congrArg Int32.toInt c_70
  have c_72 : M57.2.1 1 1 = (M.2.1 1 1) := (F_n F51 (show ¬ (1 = 77 ∧ (1 = 2 ∨ 1 = 29) ∨ 90 ≤ 1 ∧ 1 ≤ 93) by decide) (F_n F25 (show ¬ (6 ≤ 1 ∧ 1 ≤ 10) by decide) rfl))
  have t_73 : (M57.2.1 1 1).toInt = (M.2.1 1 1).toInt := congrArg Int32.toInt c_72
  have c_74 : M57.2.1 77 1 = (M.2.1 77 1) := (F_n F51 (show ¬ (77 = 77 ∧ (1 = 2 ∨ 1 = 29) ∨ 90 ≤ 77 ∧ 77 ≤ 93) by decide) (F_n F25 (show ¬ (6 ≤ 77 ∧ 77 ≤ 10) by decide) rfl))
  have t_75 : (M57.2.1 77 1).toInt = (M.2.1 77 1).toInt := congrArg Int32.toInt c_74
  have c_76 : M57.2.1 0 12 = (M.2.1 0 12) := (F_n F51 (show ¬ (0 = 77 ∧ (12 = 2 ∨ 12 = 29) ∨ 90 ≤ 0 ∧ 0 ≤ 93) by decide) (F_n F25 (show ¬ (6 ≤ 0 ∧ 0 ≤ 10) by decide) rfl))
  have t_77 : (M57.2.1 0 12).toInt = (M.2.1 0 12).toInt := congrArg Int32.toInt c_76
  have c_78 : M57.2.1 77 28 = (M.2.1 77 28) := (F_n F51 (show ¬ (77 = 77 ∧ (28 = 2 ∨ 28 = 29) ∨ 90 ≤ 77 ∧ 77 ≤ 93) by decide) c_45)
  have t_79 : (M57.2.1 77 28).toInt = (M.2.1 77 28).toInt := congrArg Int32.toInt c_78
  have c_80 : M57.2.1 17 4 = (M.2.1 17 4) := (F_n F51 (show ¬ (17 = 77 ∧ (4 = 2 ∨ 4 = 29) ∨ 90 ≤ 17 ∧ 17 ≤ 93) by decide) (F_n F25 (show ¬ (6 ≤ 17 ∧ 17 ≤ 10) by decide) rfl))
  have t_81 : (M57.2.1 17 4).toInt = (M.2.1 17 4).toInt := congrArg Int32.toInt c_80
  have c_82 : M57.2.1 77 41 = (M.2.1 77 41) := (F_n F51 (show ¬ (77 = 77 ∧ (41 = 2 ∨ 41 = 29) ∨ 90 ≤ 77 ∧ 77 ≤ 93) by decide) (F_n F25 (show ¬ (6 ≤ 77 ∧ 77 ≤ 10) by decide) rfl))
  have t_83 : (M57.2.1 77 41).toInt = (M.2.1 77 41).toInt := congrArg Int32.toInt c_82
  have c_84 : M57.2.1 6 0 = (M33.2.1 6 0) := (F_n F51 (show ¬ (6 = 77 ∧ (0 = 2 ∨ 0 = 29) ∨ 90 ≤ 6 ∧ 6 ≤ 93) by decide) rfl)
  have t_85 : (M57.2.1 6 0).toInt = (M33.2.1 6 0).toInt := congrArg Int32.toInt c_84
  have c_86 : M57.2.1 28 8 = (M.2.1 28 8) := (F_n F51 (show ¬ (28 = 77 ∧ (8 = 2 ∨ 8 = 29) ∨ 90 ≤ 28 ∧ 28 ≤ 93) by decide) (F_n F25 (show ¬ (6 ≤ 28 ∧ 28 ≤ 10) by decide) rfl))
  have t_87 : (M57.2.1 28 8).toInt = (M.2.1 28 8).toInt := congrArg Int32.toInt c_86
  have c_88 : M57.2.1 77 43 = (M.2.1 77 43) := (F_n F51 (show ¬ (77 = 77 ∧ (43 = 2 ∨ 43 = 29) ∨ 90 ≤ 77 ∧ 77 ≤ 93) by decide) (F_n F25 (show ¬ (6 ≤ 77 ∧ 77 ≤ 10) by decide) rfl))
  have t_89 : (M57.2.1 77 43).toInt = (M.2.1 77 43).toInt := congrArg Int32.toInt c_88
  have c_90 : M57.2.1 28 9 = (M.2.1 28 9) := (F_n F51 (show ¬ (28 = 77 ∧ (9 = 2 ∨ 9 = 29) ∨ 90 ≤ 28 ∧ 28 ≤ 93) by decide) (F_n F25 (show ¬ (6 ≤ 28 ∧ 28 ≤ 10) by decide) rfl))
  have t_91 : (M57.2.1 28 9).toInt = (M.2.1 28 9).toInt := congrArg Int32.toInt c_90
  have c_92 : M57.2.1 77 42 = (M.2.1 77 42) := (F_n F51 (show ¬ (77 = 77 ∧ (42 = 2 ∨ 42 = 29) ∨ 90 ≤ 77 ∧ 77 ≤ 93) by decide) (F_n F25 (show ¬ (6 ≤ 77 ∧ 77 ≤ 10) by decide) rfl))
  have t_93 : (M57.2.1 77 42).toInt = (M.2.1 77 42).toInt := congrArg Int32.toInt c_92
  have j_94 := (PI_f (tg_612 F51) p_28)
  have j_95 := (NI_f (tg_613 F51) p_27)
  have j_96 := (QI_f (tg_614 F51) p_29)
  have j_97 := (PQE_r F51.2.1 (PQE_r F25.2.1 jPQE))
  have j_98 := (FA_f (tg_615 F51) j_48)
  have j_99 := (WC_f (tg_616 F51) (WC_f (tg_617 F25) jWC))
  have j_100 := (PS_f (tg_618 F51) (PS_f (tg_619 F25) jPS))
  have j_101 := (KQ_f (tg_620 F51) (KQ_f (tg_621 F25) jKQ))
  have j_102 := (TP_f (tg_622 F51) (TP_f (tg_623 F25) jTP))
  have j_103 := (W9_f (tg_624 F51) (W9_f (tg_625 F25) jW9))
  have j_104 := (KNA_F F51 (fun a i z => show ¬ (a = 77 ∧ (i = 2 ∨ i = 29) ∨ 90 ≤ a ∧ a ≤ 93) by (first | (clear hpz23 hpzz23 hqz23 hqzz23 p_30 p_31 p_54 p_55; omega) | (clear hpz23 hpzz23 hqz23 hqzz23; omega) | (clear hpz23 hpzz23 hqz23 p_30 p_31 p_54 p_55; omega) | omega)) (KNA_F F25 (fun a i z => show ¬ (6 ≤ a ∧ a ≤ 10) by (first | (clear hpz23 hpzz23 hqz23 hqzz23 p_30 p_31 p_54 p_55; omega) | (clear hpz23 hpzz23 hqz23 hqzz23; omega) | (clear hpz23 hpzz23 hqz23 p_30 p_31 p_54 p_55; omega) | omega)) jKNA))
  have j_105 := (NE_r F51.2.1 (NE_r F25.2.1 jNE))
  have j_106 := (W8_f (tg_626 F51) (W8_f (tg_627 F25) jW8))
  exact h M57 (u5) (u6) ⟨⟨⟨⟨⟨⟨⟨⟨⟨hG52, ⟨j_94, j_95, j_96, j_97⟩, ⟨j_98, j_99, p_53, j_100, j_101⟩, by (first | (clear hpz23 hpzz23 hqz23 hqzz23 p_30 p_31 p_54 p_55; omega) | (clear hpz23 hpzz23 hqz23 hqzz23; omega) | (clear hpz23 hpzz23 hqz23 p_30 p_31 p_54 p_55; omega) | omega), by (first | (clear hpz23 hpzz23 hqz23 hqzz23 p_30 p_31 p_54 p_55; omega) | (clear hpz23 hpzz23 hqz23 hqzz23; omega) | (clear hpz23 hpzz23 hqz23 p_30 p_31 p_54 p_55; omega) | omega)⟩, j_102, j_103⟩, j_105, by (first | (clear hpz23 hpzz23 hqz23 hqzz23 p_30 p_31 p_54 p_55; omega) | (clear hpz23 hpzz23 hqz23 hqzz23; omega) | (clear hpz23 hpzz23 hqz23 p_30 p_31 p_54 p_55; omega) | omega)⟩, AN_a z_67⟩, by (first | (clear hpz23 hpzz23 hqz23 hqzz23 p_30 p_31 p_54 p_55; omega) | (clear hpz23 hpzz23 hqz23 hqzz23; omega) | (clear hpz23 hpzz23 hqz23 p_30 p_31 p_54 p_55; omega) | omega)⟩, j_106⟩, by (first | (clear hpz23 hpzz23 hqz23 hqzz23 p_30 p_31 p_54 p_55; omega) | (clear hpz23 hpzz23 hqz23 hqzz23; omega) | (clear hpz23 hpzz23 hqz23 p_30 p_31 p_54 p_55; omega) | omega)⟩, z_67⟩, j_104, by (first | (clear hpz23 hpzz23 hqz23 hqzz23 p_30 p_31 p_54 p_55; omega) | (clear hpz23 hpzz23 hqz23 hqzz23; omega) | (clear hpz23 hpzz23 hqz23 p_30 p_31 p_54 p_55; omega) | omega), by (first | (clear hpz23 hpzz23 hqz23 hqzz23 p_30 p_31 p_54 p_55; omega) | (clear hpz23 hpzz23 hqz23 hqzz23; omega) | (clear hpz23 hpzz23 hqz23 p_30 p_31 p_54 p_55; omega) | omega)⟩ (by (first | (clear hpz23 hpzz23 hqz23 hqzz23 p_30 p_31 p_54 p_55; omega) | (clear hpz23 hpzz23 hqz23 hqzz23; omega) | (clear hpz23 hpzz23 hqz23 p_30 p_31 p_54 p_55; omega) | omega)) (by (first | (clear hpz23 hpzz23 hqz23 hqzz23 p_30 p_31 p_54 p_55; omega) | (clear hpz23 hpzz23 hqz23 hqzz23; omega) | (clear hpz23 hpzz23 hqz23 p_30 p_31 p_54 p_55; omega) | omega))
